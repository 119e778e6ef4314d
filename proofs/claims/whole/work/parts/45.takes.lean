/-! reading a text -/
abbrev tkP (c : Nat → Int32) (n q : Nat) (lo hi : Int32) : Prop := q < n ∧ ¬ c q < lo ∧ c q ≤ hi
def tkS (σ : St) (q : Nat) : St := up (up σ 7 3 0 (σ 7 0 q)) 7 2 0 (nI (q + 1))
abbrev dgP (c : Nat → Int32) (n q : Nat) : Prop := tkP c n q 48 57
def tpS (σ : St) (q p : Nat) : St := up (up (tkS (tkS σ q) (q + 1)) 6 0 p (10 * (σ 7 0 q - 48) + σ 7 0 (q + 1) - 48)) 6 9 0 (nI p + 1)
def kdI (x : Int32) : Int32 := if x = 99 then 0 else if x = 102 then 1 else 2
abbrev kdP (c : Nat → Int32) (n q : Nat) : Prop := tkP c n q 99 99 ∨ tkP c n q 102 102 ∨ tkP c n q 112 112
def tm1 (σ : St) (q m : Nat) : St := up (tkS σ q) 6 3 m (kdI (σ 7 0 q))
def tm2 (σ : St) (q m : Nat) : St := up (tkS (tm1 σ q m) (q + 1)) 6 4 m (σ 7 0 (q + 1) - 48)
def tm3 (σ : St) (q m : Nat) : St := up (tkS (tm2 σ q m) (q + 2)) 6 5 m (σ 7 0 (q + 2) - 48)
def tm4 (σ : St) (q m : Nat) : St := up (up (tkS (tm3 σ q m) (q + 3)) 6 6 m (σ 7 0 (q + 3) - 48)) 6 10 0 (nI m + 1)
section
variable {D : va_G} {tc : Tc} {A : Nat → Nat} {σ : St} {n q : Nat}
set_option maxRecDepth 100000 in
set_option maxHeartbeats 4000000 in
theorem ok_takes (hn : σ 7 1 0 = nI n) (h60 : n ≤ 60) (hq : σ 7 2 0 = nI q) (hq6 : q < 2 ^ 30) (lo hi : Int32) : Ok 0 yX4_takes cX4_takes 3 (some .boolean) D tc [.ref (A 26), .int lo, .int hi] (cW A tc σ) (some (.int (b2i (tkP (σ 7 0) n q lo hi)))) (cW A tc (if tkP (σ 7 0) n q lo hi then tkS σ q else σ)) := by
  refine Ok_of RX4 rfl (by decide) [some (.ref (A 26)), some (.int lo), some (.int hi)] rfl (Nat.le_of_ble_eq_true rfl) ?_
  intro X hX
  refine V_ald0 dX4_takes_0 ?_
  refine V_get lf_X4_19 dX4_takes_1 cW_rd rfl ?_
  refine V_top (y := nI q) hq ?_
  refine V_ald0 dX4_takes_4 ?_
  refine V_get lf_X4_15 dX4_takes_5 cW_rd rfl ?_
  refine V_top (y := nI n) hn ?_
  refine V_icmp_ge 37 dX4_takes_8 (by decide) (fun c8 => ?_) (fun c8 => ?_)
  · rw [nI_leI (by omega) (by omega)] at c8
    have hf : ¬ tkP (σ 7 0) n q lo hi := fun h => by have := h.1; omega
    refine V_iconst 0 dX4_takes_37 (by decide) ?_
    exact V_zret hX dX4_takes_38 rfl (by first | exact Or.inl rfl | exact Or.inr rfl) (by first | rw [b2i_f hf] | rw [b2i_t ht]) (congrArg (cW A tc) (by first | rw [if_neg hf] | rw [if_pos ht]; rfl))
  · rw [nI_leI (by omega) (by omega)] at c8
    refine V_ald0 dX4_takes_11 ?_
    refine V_get lf_X4_9 dX4_takes_12 cW_rd rfl ?_
    refine V_ald0 dX4_takes_15 ?_
    refine V_get lf_X4_19 dX4_takes_16 cW_rd rfl ?_
    refine V_top (y := nI q) hq ?_
    refine V_ialdk dX4_takes_19 cW_rda ⟨by omega, by decide⟩ ?_
    refine V_ild1 dX4_takes_20 ?_
    refine V_icmp_lt 37 dX4_takes_21 (by decide) (fun c21 => ?_) (fun c21 => ?_)
    · have hf : ¬ tkP (σ 7 0) n q lo hi := fun h => h.2.1 c21
      refine V_iconst 0 dX4_takes_37 (by decide) ?_
      exact V_zret hX dX4_takes_38 rfl (by first | exact Or.inl rfl | exact Or.inr rfl) (by first | rw [b2i_f hf] | rw [b2i_t ht]) (congrArg (cW A tc) (by first | rw [if_neg hf] | rw [if_pos ht]; rfl))
    · refine V_ald0 dX4_takes_24 ?_
      refine V_get lf_X4_9 dX4_takes_25 cW_rd rfl ?_
      refine V_ald0 dX4_takes_28 ?_
      refine V_get lf_X4_19 dX4_takes_29 cW_rd rfl ?_
      refine V_top (y := nI q) hq ?_
      refine V_ialdk dX4_takes_32 cW_rda ⟨by omega, by decide⟩ ?_
      refine V_ild2 dX4_takes_33 ?_
      refine V_icmp_le 39 dX4_takes_34 (by decide) (fun c34 => ?_) (fun c34 => ?_)
      · have ht : tkP (σ 7 0) n q lo hi := ⟨by omega, c21, c34⟩
        refine V_ald0 dX4_takes_39 ?_
        refine V_ald0 dX4_takes_40 ?_
        refine V_get lf_X4_9 dX4_takes_41 cW_rd rfl ?_
        refine V_ald0 dX4_takes_44 ?_
        refine V_get lf_X4_19 dX4_takes_45 cW_rd rfl ?_
        refine V_top (y := nI q) hq ?_
        refine V_ialdk dX4_takes_48 cW_rda ⟨by omega, by decide⟩ ?_
        refine V_puti lp_X4_22 dX4_takes_49 cW_rd (Nat.le_of_ble_eq_true rfl) (cW_rdp3 _) ?_
        refine V_ald0 dX4_takes_52 ?_
        refine V_dupa dX4_takes_53 ?_
        refine V_get lf_X4_19 dX4_takes_54 cW_rd rfl ?_
        refine V_iconst 1 dX4_takes_57 (by decide) ?_
        refine V_iadd dX4_takes_58 ?_
        refine V_top (y := nI (q + 1)) (by show σ 7 2 0 + 1 = _; rw [hq, nI_1]) ?_
        refine V_puti lp_X4_19 dX4_takes_59 cW_rd (Nat.le_of_ble_eq_true rfl) (cW_rdp2 _) ?_
        refine V_iconst 1 dX4_takes_62 (by decide) ?_
        exact V_zret hX dX4_takes_63 rfl (by first | exact Or.inl rfl | exact Or.inr rfl) (by first | rw [b2i_f hf] | rw [b2i_t ht]) (congrArg (cW A tc) (by first | rw [if_neg hf] | rw [if_pos ht]; rfl))
      · have hf : ¬ tkP (σ 7 0) n q lo hi := fun h => c34 h.2.2
        refine V_iconst 0 dX4_takes_37 (by decide) ?_
        exact V_zret hX dX4_takes_38 rfl (by first | exact Or.inl rfl | exact Or.inr rfl) (by first | rw [b2i_f hf] | rw [b2i_t ht]) (congrArg (cW A tc) (by first | rw [if_neg hf] | rw [if_pos ht]; rfl))
set_option maxRecDepth 100000 in
set_option maxHeartbeats 4000000 in
theorem ok_takesPerson (hn : σ 7 1 0 = nI n) (h60 : n ≤ 60) (hq : σ 7 2 0 = nI q) (hq6 : q < 2 ^ 29) (p : Nat) (hp : p < 4) : Ok 1 yX4_takesPerson cX4_takesPerson 4 (some .boolean) D tc [.ref (A 26), .ref (A (mb 6)), .int (nI p)] (cW A tc σ) (some (.int (b2i (dgP (σ 7 0) n q ∧ dgP (σ 7 0) n (q + 1))))) (cW A tc (if dgP (σ 7 0) n q then (if dgP (σ 7 0) n (q + 1) then tpS σ q p else tkS σ q) else σ)) := by
  refine Ok_of RX4 rfl (by decide) [some (.ref (A 26)), some (.ref (A (mb 6))), some (.int (nI p)), none] rfl (Nat.le_of_ble_eq_true rfl) ?_
  intro X hX
  refine V_ald0 dX4_takesPerson_0 ?_
  refine V_bipush 48 dX4_takesPerson_1 (by decide) ?_
  refine V_bipush 57 dX4_takesPerson_3 (by decide) ?_
  refine V_callV lm_X4_41 (ok_takes hn h60 hq (by omega) _ _) dX4_takesPerson_5 cW_rd rfl (dep hX (by decide)) rfl (Nat.le_of_ble_eq_true rfl) ?_
  refine V_if_ne 13 dX4_takesPerson_8 (by decide) (fun c8 => ?_) (fun c8 => ?_)
  · try rw [b2i_ne] at c8
    try rw [Decidable.not_not] at c8
    rw [if_pos c8]
    refine V_ald0 dX4_takesPerson_13 ?_
    refine V_get lf_X4_22 dX4_takesPerson_14 cW_rd rfl ?_
    refine V_top (y := σ 7 0 q) rfl ?_
    refine V_bipush 48 dX4_takesPerson_17 (by decide) ?_
    refine V_isub dX4_takesPerson_19 ?_
    refine V_ist3 dX4_takesPerson_20 rfl (by decide) ?_
    refine V_ald0 dX4_takesPerson_21 ?_
    refine V_bipush 48 dX4_takesPerson_22 (by decide) ?_
    refine V_bipush 57 dX4_takesPerson_24 (by decide) ?_
    refine V_callV lm_X4_41 (ok_takes (σ := tkS σ q) hn h60 rfl (by omega) _ _) dX4_takesPerson_26 cW_rd rfl (dep hX (by decide)) rfl (Nat.le_of_ble_eq_true rfl) ?_
    refine V_if_ne 34 dX4_takesPerson_29 (by decide) (fun c29 => ?_) (fun c29 => ?_)
    · try rw [b2i_ne] at c29
      try rw [Decidable.not_not] at c29
      rw [if_pos c29]
      have ht : dgP (σ 7 0) n q ∧ dgP (σ 7 0) n (q + 1) := ⟨c8, c29⟩
      refine V_ald1 dX4_takesPerson_34 ?_
      refine V_get lf_X4_61 dX4_takesPerson_35 (cW_mkt dra6) rfl ?_
      refine V_ild2 dX4_takesPerson_38 ?_
      refine V_bipush 10 dX4_takesPerson_39 (by decide) ?_
      refine V_ild3 dX4_takesPerson_41 ?_
      refine V_imul dX4_takesPerson_42 ?_
      refine V_ald0 dX4_takesPerson_43 ?_
      refine V_get lf_X4_22 dX4_takesPerson_44 cW_rd rfl ?_
      refine V_top (y := σ 7 0 (q + 1)) rfl ?_
      refine V_iadd dX4_takesPerson_47 ?_
      refine V_bipush 48 dX4_takesPerson_48 (by decide) ?_
      refine V_isub dX4_takesPerson_50 ?_
      refine V_iastk dX4_takesPerson_51 (cW_ma0 dra6) ⟨hp, by decide⟩ (cW_ma0s dra6 _ _) ?_
      refine V_ald1 dX4_takesPerson_52 ?_
      refine V_ild2 dX4_takesPerson_53 ?_
      refine V_iconst 1 dX4_takesPerson_54 (by decide) ?_
      refine V_iadd dX4_takesPerson_55 ?_
      refine V_puti lp_X4_52 dX4_takesPerson_56 (cW_mkt dra6) (Nat.le_of_ble_eq_true rfl) (cW_mktp9 dra6 _) ?_
      refine V_iconst 1 dX4_takesPerson_59 (by decide) ?_
      exact V_zret hX dX4_takesPerson_60 rfl (by first | exact Or.inl rfl | exact Or.inr rfl) (by rw [b2i_t ht]) (congrArg (cW A tc) (by rw [if_pos c8, if_pos (show dgP (σ 7 0) n (q + 1) from c29)]; try rfl))
    · try rw [b2i_eq] at c29
      try rw [Decidable.not_not] at c29
      rw [if_neg c29]
      have hz : ¬ (dgP (σ 7 0) n q ∧ dgP (σ 7 0) n (q + 1)) := fun h => c29 h.2
      refine V_iconst 0 dX4_takesPerson_32 (by decide) ?_
      exact V_zret hX dX4_takesPerson_33 rfl (by first | exact Or.inl rfl | exact Or.inr rfl) (by rw [b2i_f hz]) (congrArg (cW A tc) (by rw [if_pos c8, if_neg (show ¬ dgP (σ 7 0) n (q + 1) from c29)]))
  · try rw [b2i_eq] at c8
    try rw [Decidable.not_not] at c8
    rw [if_neg c8]
    have hz : ¬ (dgP (σ 7 0) n q ∧ dgP (σ 7 0) n (q + 1)) := fun h => c8 h.1
    refine V_iconst 0 dX4_takesPerson_11 (by decide) ?_
    exact V_zret hX dX4_takesPerson_12 rfl (by first | exact Or.inl rfl | exact Or.inr rfl) (by rw [b2i_f hz]) (congrArg (cW A tc) (by rw [if_neg c8]))
set_option maxRecDepth 100000 in
set_option maxHeartbeats 4000000 in
theorem ok_takesMorning {P : Nat} (hn : σ 7 1 0 = nI n) (h60 : n ≤ 60) (hq : σ 7 2 0 = nI q) (hq6 : q < 2 ^ 28) (hP : σ 6 9 0 = nI P) (m : Nat) (hm : m < 6) : Ok 1 yX4_takesMorning cX4_takesMorning 3 (some .boolean) D tc [.ref (A 26), .ref (A (mb 6)), .int (nI m)] (cW A tc σ) (some (.int (b2i (kdP (σ 7 0) n q ∧ tkP (σ 7 0) n (q + 1) 48 (48 + nI P - 1) ∧ dgP (σ 7 0) n (q + 2) ∧ dgP (σ 7 0) n (q + 3))))) (cW A tc (if kdP (σ 7 0) n q then (if tkP (σ 7 0) n (q + 1) 48 (48 + nI P - 1) then (if dgP (σ 7 0) n (q + 2) then (if dgP (σ 7 0) n (q + 3) then tm4 σ q m else tm3 σ q m) else tm2 σ q m) else tm1 σ q m) else σ)) := by
  refine Ok_of RX4 rfl (by decide) [some (.ref (A 26)), some (.ref (A (mb 6))), some (.int (nI m))] rfl (Nat.le_of_ble_eq_true rfl) ?_
  intro X hX
  refine V_ald0 dX4_takesMorning_0 ?_
  refine V_bipush 99 dX4_takesMorning_1 (by decide) ?_
  refine V_bipush 99 dX4_takesMorning_3 (by decide) ?_
  refine V_callV lm_X4_41 (ok_takes hn h60 hq (by omega) _ _) dX4_takesMorning_5 cW_rd rfl (dep hX (by decide)) rfl (Nat.le_of_ble_eq_true rfl) ?_
  refine V_if_ne 35 dX4_takesMorning_8 (by decide) (fun c8 => ?_) (fun c8 => ?_)
  · try rw [b2i_ne] at c8
    try rw [Decidable.not_not] at c8
    rw [if_pos c8]
    have hk : kdP (σ 7 0) n q := Or.inl c8
    refine V_ald1 dX4_takesMorning_35 ?_
    refine V_get lf_X4_64 dX4_takesMorning_36 (cW_mkt dra6) rfl ?_
    refine V_ild2 dX4_takesMorning_39 ?_
    refine V_ald0 dX4_takesMorning_40 ?_
    refine V_get lf_X4_22 dX4_takesMorning_41 cW_rd rfl ?_
    refine V_bipush 99 dX4_takesMorning_44 (by decide) ?_
    refine V_icmp_ne 53 dX4_takesMorning_46 (by decide) (fun c46 => ?_) (fun c46 => ?_)
    · refine V_ald0 dX4_takesMorning_53 ?_
      refine V_get lf_X4_22 dX4_takesMorning_54 cW_rd rfl ?_
      refine V_bipush 102 dX4_takesMorning_57 (by decide) ?_
      refine V_icmp_ne 66 dX4_takesMorning_59 (by decide) (fun c59 => ?_) (fun c59 => ?_)
      · refine V_iconst 2 dX4_takesMorning_66 (by decide) ?_
        refine V_top (y := kdI (σ 7 0 q)) (by unfold kdI; first | (rw [if_pos (show σ 7 0 q = 99 from c46)]) | (rw [if_neg (show ¬ σ 7 0 q = 99 from c46), if_pos (show σ 7 0 q = 102 from c59)]) | (rw [if_neg (show ¬ σ 7 0 q = 99 from c46), if_neg (show ¬ σ 7 0 q = 102 from c59)])) ?_
        refine V_iastk dX4_takesMorning_67 (cW_ma3 dra6) ⟨hm, by decide⟩ (cW_ma3s dra6 _ _) ?_
        refine V_ald0 dX4_takesMorning_68 ?_
        refine V_bipush 48 dX4_takesMorning_69 (by decide) ?_
        refine V_bipush 48 dX4_takesMorning_71 (by decide) ?_
        refine V_ald1 dX4_takesMorning_73 ?_
        refine V_get lf_X4_52 dX4_takesMorning_74 (cW_mkt dra6) rfl ?_
        refine V_top (y := nI P) hP ?_
        refine V_iadd dX4_takesMorning_77 ?_
        refine V_iconst 1 dX4_takesMorning_78 (by decide) ?_
        refine V_isub dX4_takesMorning_79 ?_
        refine V_callV lm_X4_41 (ok_takes (σ := tm1 σ q m) hn h60 rfl (by omega) _ _) dX4_takesMorning_80 cW_rd rfl (dep hX (by decide)) rfl (Nat.le_of_ble_eq_true rfl) ?_
        refine V_if_ne 88 dX4_takesMorning_83 (by decide) (fun c83 => ?_) (fun c83 => ?_)
        · try rw [b2i_ne] at c83
          try rw [Decidable.not_not] at c83
          rw [if_pos c83]
          refine V_ald1 dX4_takesMorning_88 ?_
          refine V_get lf_X4_67 dX4_takesMorning_89 (cW_mkt dra6) rfl ?_
          refine V_ild2 dX4_takesMorning_92 ?_
          refine V_ald0 dX4_takesMorning_93 ?_
          refine V_get lf_X4_22 dX4_takesMorning_94 cW_rd rfl ?_
          refine V_top (y := σ 7 0 (q + 1)) rfl ?_
          refine V_bipush 48 dX4_takesMorning_97 (by decide) ?_
          refine V_isub dX4_takesMorning_99 ?_
          refine V_iastk dX4_takesMorning_100 (cW_ma4 dra6) ⟨hm, by decide⟩ (cW_ma4s dra6 _ _) ?_
          refine V_ald0 dX4_takesMorning_101 ?_
          refine V_bipush 48 dX4_takesMorning_102 (by decide) ?_
          refine V_bipush 57 dX4_takesMorning_104 (by decide) ?_
          refine V_callV lm_X4_41 (ok_takes (σ := tm2 σ q m) hn h60 rfl (by omega) _ _) dX4_takesMorning_106 cW_rd rfl (dep hX (by decide)) rfl (Nat.le_of_ble_eq_true rfl) ?_
          refine V_if_ne 114 dX4_takesMorning_109 (by decide) (fun c109 => ?_) (fun c109 => ?_)
          · try rw [b2i_ne] at c109
            try rw [Decidable.not_not] at c109
            rw [if_pos c109]
            refine V_ald1 dX4_takesMorning_114 ?_
            refine V_get lf_X4_70 dX4_takesMorning_115 (cW_mkt dra6) rfl ?_
            refine V_ild2 dX4_takesMorning_118 ?_
            refine V_ald0 dX4_takesMorning_119 ?_
            refine V_get lf_X4_22 dX4_takesMorning_120 cW_rd rfl ?_
            refine V_top (y := σ 7 0 (q + 2)) rfl ?_
            refine V_bipush 48 dX4_takesMorning_123 (by decide) ?_
            refine V_isub dX4_takesMorning_125 ?_
            refine V_iastk dX4_takesMorning_126 (cW_ma5 dra6) ⟨hm, by decide⟩ (cW_ma5s dra6 _ _) ?_
            refine V_ald0 dX4_takesMorning_127 ?_
            refine V_bipush 48 dX4_takesMorning_128 (by decide) ?_
            refine V_bipush 57 dX4_takesMorning_130 (by decide) ?_
            refine V_callV lm_X4_41 (ok_takes (σ := tm3 σ q m) hn h60 rfl (by omega) _ _) dX4_takesMorning_132 cW_rd rfl (dep hX (by decide)) rfl (Nat.le_of_ble_eq_true rfl) ?_
            refine V_if_ne 140 dX4_takesMorning_135 (by decide) (fun c135 => ?_) (fun c135 => ?_)
            · try rw [b2i_ne] at c135
              try rw [Decidable.not_not] at c135
              rw [if_pos c135]
              refine V_ald1 dX4_takesMorning_140 ?_
              refine V_get lf_X4_73 dX4_takesMorning_141 (cW_mkt dra6) rfl ?_
              refine V_ild2 dX4_takesMorning_144 ?_
              refine V_ald0 dX4_takesMorning_145 ?_
              refine V_get lf_X4_22 dX4_takesMorning_146 cW_rd rfl ?_
              refine V_top (y := σ 7 0 (q + 3)) rfl ?_
              refine V_bipush 48 dX4_takesMorning_149 (by decide) ?_
              refine V_isub dX4_takesMorning_151 ?_
              refine V_iastk dX4_takesMorning_152 (cW_ma6 dra6) ⟨hm, by decide⟩ (cW_ma6s dra6 _ _) ?_
              refine V_ald1 dX4_takesMorning_153 ?_
              refine V_ild2 dX4_takesMorning_154 ?_
              refine V_iconst 1 dX4_takesMorning_155 (by decide) ?_
              refine V_iadd dX4_takesMorning_156 ?_
              refine V_puti lp_X4_58 dX4_takesMorning_157 (cW_mkt dra6) (Nat.le_of_ble_eq_true rfl) (cW_mktp10 dra6 _) ?_
              refine V_iconst 1 dX4_takesMorning_160 (by decide) ?_
              exact V_zret hX dX4_takesMorning_161 rfl (by first | exact Or.inl rfl | exact Or.inr rfl) (by rw [b2i_t ⟨hk, c83, c109, c135⟩]) (congrArg (cW A tc) (by rw [if_pos hk, if_pos (show tkP (σ 7 0) n (q + 1) 48 (48 + nI P - 1) from c83), if_pos (show dgP (σ 7 0) n (q + 2) from c109), if_pos (show dgP (σ 7 0) n (q + 3) from c135)]; try rfl))
            · try rw [b2i_eq] at c135
              try rw [Decidable.not_not] at c135
              rw [if_neg c135]
              refine V_iconst 0 dX4_takesMorning_138 (by decide) ?_
              exact V_zret hX dX4_takesMorning_139 rfl (by first | exact Or.inl rfl | exact Or.inr rfl) (by rw [b2i_f (fun h => c135 h.2.2.2)]) (congrArg (cW A tc) (by rw [if_pos hk, if_pos (show tkP (σ 7 0) n (q + 1) 48 (48 + nI P - 1) from c83), if_pos (show dgP (σ 7 0) n (q + 2) from c109), if_neg (show ¬ dgP (σ 7 0) n (q + 3) from c135)]; try rfl))
          · try rw [b2i_eq] at c109
            try rw [Decidable.not_not] at c109
            rw [if_neg c109]
            refine V_iconst 0 dX4_takesMorning_112 (by decide) ?_
            exact V_zret hX dX4_takesMorning_113 rfl (by first | exact Or.inl rfl | exact Or.inr rfl) (by rw [b2i_f (fun h => c109 h.2.2.1)]) (congrArg (cW A tc) (by rw [if_pos hk, if_pos (show tkP (σ 7 0) n (q + 1) 48 (48 + nI P - 1) from c83), if_neg (show ¬ dgP (σ 7 0) n (q + 2) from c109)]; try rfl))
        · try rw [b2i_eq] at c83
          try rw [Decidable.not_not] at c83
          rw [if_neg c83]
          refine V_iconst 0 dX4_takesMorning_86 (by decide) ?_
          exact V_zret hX dX4_takesMorning_87 rfl (by first | exact Or.inl rfl | exact Or.inr rfl) (by rw [b2i_f (fun h => c83 h.2.1)]) (congrArg (cW A tc) (by rw [if_pos hk, if_neg (show ¬ tkP (σ 7 0) n (q + 1) 48 (48 + nI P - 1) from c83)]; try rfl))
      · refine V_iconst 1 dX4_takesMorning_62 (by decide) ?_
        refine V_goto 67 dX4_takesMorning_63 (by decide) ?_
        refine V_top (y := kdI (σ 7 0 q)) (by unfold kdI; first | (rw [if_pos (show σ 7 0 q = 99 from c46)]) | (rw [if_neg (show ¬ σ 7 0 q = 99 from c46), if_pos (show σ 7 0 q = 102 from c59)]) | (rw [if_neg (show ¬ σ 7 0 q = 99 from c46), if_neg (show ¬ σ 7 0 q = 102 from c59)])) ?_
        refine V_iastk dX4_takesMorning_67 (cW_ma3 dra6) ⟨hm, by decide⟩ (cW_ma3s dra6 _ _) ?_
        refine V_ald0 dX4_takesMorning_68 ?_
        refine V_bipush 48 dX4_takesMorning_69 (by decide) ?_
        refine V_bipush 48 dX4_takesMorning_71 (by decide) ?_
        refine V_ald1 dX4_takesMorning_73 ?_
        refine V_get lf_X4_52 dX4_takesMorning_74 (cW_mkt dra6) rfl ?_
        refine V_top (y := nI P) hP ?_
        refine V_iadd dX4_takesMorning_77 ?_
        refine V_iconst 1 dX4_takesMorning_78 (by decide) ?_
        refine V_isub dX4_takesMorning_79 ?_
        refine V_callV lm_X4_41 (ok_takes (σ := tm1 σ q m) hn h60 rfl (by omega) _ _) dX4_takesMorning_80 cW_rd rfl (dep hX (by decide)) rfl (Nat.le_of_ble_eq_true rfl) ?_
        refine V_if_ne 88 dX4_takesMorning_83 (by decide) (fun c83 => ?_) (fun c83 => ?_)
        · try rw [b2i_ne] at c83
          try rw [Decidable.not_not] at c83
          rw [if_pos c83]
          refine V_ald1 dX4_takesMorning_88 ?_
          refine V_get lf_X4_67 dX4_takesMorning_89 (cW_mkt dra6) rfl ?_
          refine V_ild2 dX4_takesMorning_92 ?_
          refine V_ald0 dX4_takesMorning_93 ?_
          refine V_get lf_X4_22 dX4_takesMorning_94 cW_rd rfl ?_
          refine V_top (y := σ 7 0 (q + 1)) rfl ?_
          refine V_bipush 48 dX4_takesMorning_97 (by decide) ?_
          refine V_isub dX4_takesMorning_99 ?_
          refine V_iastk dX4_takesMorning_100 (cW_ma4 dra6) ⟨hm, by decide⟩ (cW_ma4s dra6 _ _) ?_
          refine V_ald0 dX4_takesMorning_101 ?_
          refine V_bipush 48 dX4_takesMorning_102 (by decide) ?_
          refine V_bipush 57 dX4_takesMorning_104 (by decide) ?_
          refine V_callV lm_X4_41 (ok_takes (σ := tm2 σ q m) hn h60 rfl (by omega) _ _) dX4_takesMorning_106 cW_rd rfl (dep hX (by decide)) rfl (Nat.le_of_ble_eq_true rfl) ?_
          refine V_if_ne 114 dX4_takesMorning_109 (by decide) (fun c109 => ?_) (fun c109 => ?_)
          · try rw [b2i_ne] at c109
            try rw [Decidable.not_not] at c109
            rw [if_pos c109]
            refine V_ald1 dX4_takesMorning_114 ?_
            refine V_get lf_X4_70 dX4_takesMorning_115 (cW_mkt dra6) rfl ?_
            refine V_ild2 dX4_takesMorning_118 ?_
            refine V_ald0 dX4_takesMorning_119 ?_
            refine V_get lf_X4_22 dX4_takesMorning_120 cW_rd rfl ?_
            refine V_top (y := σ 7 0 (q + 2)) rfl ?_
            refine V_bipush 48 dX4_takesMorning_123 (by decide) ?_
            refine V_isub dX4_takesMorning_125 ?_
            refine V_iastk dX4_takesMorning_126 (cW_ma5 dra6) ⟨hm, by decide⟩ (cW_ma5s dra6 _ _) ?_
            refine V_ald0 dX4_takesMorning_127 ?_
            refine V_bipush 48 dX4_takesMorning_128 (by decide) ?_
            refine V_bipush 57 dX4_takesMorning_130 (by decide) ?_
            refine V_callV lm_X4_41 (ok_takes (σ := tm3 σ q m) hn h60 rfl (by omega) _ _) dX4_takesMorning_132 cW_rd rfl (dep hX (by decide)) rfl (Nat.le_of_ble_eq_true rfl) ?_
            refine V_if_ne 140 dX4_takesMorning_135 (by decide) (fun c135 => ?_) (fun c135 => ?_)
            · try rw [b2i_ne] at c135
              try rw [Decidable.not_not] at c135
              rw [if_pos c135]
              refine V_ald1 dX4_takesMorning_140 ?_
              refine V_get lf_X4_73 dX4_takesMorning_141 (cW_mkt dra6) rfl ?_
              refine V_ild2 dX4_takesMorning_144 ?_
              refine V_ald0 dX4_takesMorning_145 ?_
              refine V_get lf_X4_22 dX4_takesMorning_146 cW_rd rfl ?_
              refine V_top (y := σ 7 0 (q + 3)) rfl ?_
              refine V_bipush 48 dX4_takesMorning_149 (by decide) ?_
              refine V_isub dX4_takesMorning_151 ?_
              refine V_iastk dX4_takesMorning_152 (cW_ma6 dra6) ⟨hm, by decide⟩ (cW_ma6s dra6 _ _) ?_
              refine V_ald1 dX4_takesMorning_153 ?_
              refine V_ild2 dX4_takesMorning_154 ?_
              refine V_iconst 1 dX4_takesMorning_155 (by decide) ?_
              refine V_iadd dX4_takesMorning_156 ?_
              refine V_puti lp_X4_58 dX4_takesMorning_157 (cW_mkt dra6) (Nat.le_of_ble_eq_true rfl) (cW_mktp10 dra6 _) ?_
              refine V_iconst 1 dX4_takesMorning_160 (by decide) ?_
              exact V_zret hX dX4_takesMorning_161 rfl (by first | exact Or.inl rfl | exact Or.inr rfl) (by rw [b2i_t ⟨hk, c83, c109, c135⟩]) (congrArg (cW A tc) (by rw [if_pos hk, if_pos (show tkP (σ 7 0) n (q + 1) 48 (48 + nI P - 1) from c83), if_pos (show dgP (σ 7 0) n (q + 2) from c109), if_pos (show dgP (σ 7 0) n (q + 3) from c135)]; try rfl))
            · try rw [b2i_eq] at c135
              try rw [Decidable.not_not] at c135
              rw [if_neg c135]
              refine V_iconst 0 dX4_takesMorning_138 (by decide) ?_
              exact V_zret hX dX4_takesMorning_139 rfl (by first | exact Or.inl rfl | exact Or.inr rfl) (by rw [b2i_f (fun h => c135 h.2.2.2)]) (congrArg (cW A tc) (by rw [if_pos hk, if_pos (show tkP (σ 7 0) n (q + 1) 48 (48 + nI P - 1) from c83), if_pos (show dgP (σ 7 0) n (q + 2) from c109), if_neg (show ¬ dgP (σ 7 0) n (q + 3) from c135)]; try rfl))
          · try rw [b2i_eq] at c109
            try rw [Decidable.not_not] at c109
            rw [if_neg c109]
            refine V_iconst 0 dX4_takesMorning_112 (by decide) ?_
            exact V_zret hX dX4_takesMorning_113 rfl (by first | exact Or.inl rfl | exact Or.inr rfl) (by rw [b2i_f (fun h => c109 h.2.2.1)]) (congrArg (cW A tc) (by rw [if_pos hk, if_pos (show tkP (σ 7 0) n (q + 1) 48 (48 + nI P - 1) from c83), if_neg (show ¬ dgP (σ 7 0) n (q + 2) from c109)]; try rfl))
        · try rw [b2i_eq] at c83
          try rw [Decidable.not_not] at c83
          rw [if_neg c83]
          refine V_iconst 0 dX4_takesMorning_86 (by decide) ?_
          exact V_zret hX dX4_takesMorning_87 rfl (by first | exact Or.inl rfl | exact Or.inr rfl) (by rw [b2i_f (fun h => c83 h.2.1)]) (congrArg (cW A tc) (by rw [if_pos hk, if_neg (show ¬ tkP (σ 7 0) n (q + 1) 48 (48 + nI P - 1) from c83)]; try rfl))
    · refine V_iconst 0 dX4_takesMorning_49 (by decide) ?_
      refine V_goto 67 dX4_takesMorning_50 (by decide) ?_
      refine V_top (y := kdI (σ 7 0 q)) (by unfold kdI; first | (rw [if_pos (show σ 7 0 q = 99 from c46)]) | (rw [if_neg (show ¬ σ 7 0 q = 99 from c46), if_pos (show σ 7 0 q = 102 from c59)]) | (rw [if_neg (show ¬ σ 7 0 q = 99 from c46), if_neg (show ¬ σ 7 0 q = 102 from c59)])) ?_
      refine V_iastk dX4_takesMorning_67 (cW_ma3 dra6) ⟨hm, by decide⟩ (cW_ma3s dra6 _ _) ?_
      refine V_ald0 dX4_takesMorning_68 ?_
      refine V_bipush 48 dX4_takesMorning_69 (by decide) ?_
      refine V_bipush 48 dX4_takesMorning_71 (by decide) ?_
      refine V_ald1 dX4_takesMorning_73 ?_
      refine V_get lf_X4_52 dX4_takesMorning_74 (cW_mkt dra6) rfl ?_
      refine V_top (y := nI P) hP ?_
      refine V_iadd dX4_takesMorning_77 ?_
      refine V_iconst 1 dX4_takesMorning_78 (by decide) ?_
      refine V_isub dX4_takesMorning_79 ?_
      refine V_callV lm_X4_41 (ok_takes (σ := tm1 σ q m) hn h60 rfl (by omega) _ _) dX4_takesMorning_80 cW_rd rfl (dep hX (by decide)) rfl (Nat.le_of_ble_eq_true rfl) ?_
      refine V_if_ne 88 dX4_takesMorning_83 (by decide) (fun c83 => ?_) (fun c83 => ?_)
      · try rw [b2i_ne] at c83
        try rw [Decidable.not_not] at c83
        rw [if_pos c83]
        refine V_ald1 dX4_takesMorning_88 ?_
        refine V_get lf_X4_67 dX4_takesMorning_89 (cW_mkt dra6) rfl ?_
        refine V_ild2 dX4_takesMorning_92 ?_
        refine V_ald0 dX4_takesMorning_93 ?_
        refine V_get lf_X4_22 dX4_takesMorning_94 cW_rd rfl ?_
        refine V_top (y := σ 7 0 (q + 1)) rfl ?_
        refine V_bipush 48 dX4_takesMorning_97 (by decide) ?_
        refine V_isub dX4_takesMorning_99 ?_
        refine V_iastk dX4_takesMorning_100 (cW_ma4 dra6) ⟨hm, by decide⟩ (cW_ma4s dra6 _ _) ?_
        refine V_ald0 dX4_takesMorning_101 ?_
        refine V_bipush 48 dX4_takesMorning_102 (by decide) ?_
        refine V_bipush 57 dX4_takesMorning_104 (by decide) ?_
        refine V_callV lm_X4_41 (ok_takes (σ := tm2 σ q m) hn h60 rfl (by omega) _ _) dX4_takesMorning_106 cW_rd rfl (dep hX (by decide)) rfl (Nat.le_of_ble_eq_true rfl) ?_
        refine V_if_ne 114 dX4_takesMorning_109 (by decide) (fun c109 => ?_) (fun c109 => ?_)
        · try rw [b2i_ne] at c109
          try rw [Decidable.not_not] at c109
          rw [if_pos c109]
          refine V_ald1 dX4_takesMorning_114 ?_
          refine V_get lf_X4_70 dX4_takesMorning_115 (cW_mkt dra6) rfl ?_
          refine V_ild2 dX4_takesMorning_118 ?_
          refine V_ald0 dX4_takesMorning_119 ?_
          refine V_get lf_X4_22 dX4_takesMorning_120 cW_rd rfl ?_
          refine V_top (y := σ 7 0 (q + 2)) rfl ?_
          refine V_bipush 48 dX4_takesMorning_123 (by decide) ?_
          refine V_isub dX4_takesMorning_125 ?_
          refine V_iastk dX4_takesMorning_126 (cW_ma5 dra6) ⟨hm, by decide⟩ (cW_ma5s dra6 _ _) ?_
          refine V_ald0 dX4_takesMorning_127 ?_
          refine V_bipush 48 dX4_takesMorning_128 (by decide) ?_
          refine V_bipush 57 dX4_takesMorning_130 (by decide) ?_
          refine V_callV lm_X4_41 (ok_takes (σ := tm3 σ q m) hn h60 rfl (by omega) _ _) dX4_takesMorning_132 cW_rd rfl (dep hX (by decide)) rfl (Nat.le_of_ble_eq_true rfl) ?_
          refine V_if_ne 140 dX4_takesMorning_135 (by decide) (fun c135 => ?_) (fun c135 => ?_)
          · try rw [b2i_ne] at c135
            try rw [Decidable.not_not] at c135
            rw [if_pos c135]
            refine V_ald1 dX4_takesMorning_140 ?_
            refine V_get lf_X4_73 dX4_takesMorning_141 (cW_mkt dra6) rfl ?_
            refine V_ild2 dX4_takesMorning_144 ?_
            refine V_ald0 dX4_takesMorning_145 ?_
            refine V_get lf_X4_22 dX4_takesMorning_146 cW_rd rfl ?_
            refine V_top (y := σ 7 0 (q + 3)) rfl ?_
            refine V_bipush 48 dX4_takesMorning_149 (by decide) ?_
            refine V_isub dX4_takesMorning_151 ?_
            refine V_iastk dX4_takesMorning_152 (cW_ma6 dra6) ⟨hm, by decide⟩ (cW_ma6s dra6 _ _) ?_
            refine V_ald1 dX4_takesMorning_153 ?_
            refine V_ild2 dX4_takesMorning_154 ?_
            refine V_iconst 1 dX4_takesMorning_155 (by decide) ?_
            refine V_iadd dX4_takesMorning_156 ?_
            refine V_puti lp_X4_58 dX4_takesMorning_157 (cW_mkt dra6) (Nat.le_of_ble_eq_true rfl) (cW_mktp10 dra6 _) ?_
            refine V_iconst 1 dX4_takesMorning_160 (by decide) ?_
            exact V_zret hX dX4_takesMorning_161 rfl (by first | exact Or.inl rfl | exact Or.inr rfl) (by rw [b2i_t ⟨hk, c83, c109, c135⟩]) (congrArg (cW A tc) (by rw [if_pos hk, if_pos (show tkP (σ 7 0) n (q + 1) 48 (48 + nI P - 1) from c83), if_pos (show dgP (σ 7 0) n (q + 2) from c109), if_pos (show dgP (σ 7 0) n (q + 3) from c135)]; try rfl))
          · try rw [b2i_eq] at c135
            try rw [Decidable.not_not] at c135
            rw [if_neg c135]
            refine V_iconst 0 dX4_takesMorning_138 (by decide) ?_
            exact V_zret hX dX4_takesMorning_139 rfl (by first | exact Or.inl rfl | exact Or.inr rfl) (by rw [b2i_f (fun h => c135 h.2.2.2)]) (congrArg (cW A tc) (by rw [if_pos hk, if_pos (show tkP (σ 7 0) n (q + 1) 48 (48 + nI P - 1) from c83), if_pos (show dgP (σ 7 0) n (q + 2) from c109), if_neg (show ¬ dgP (σ 7 0) n (q + 3) from c135)]; try rfl))
        · try rw [b2i_eq] at c109
          try rw [Decidable.not_not] at c109
          rw [if_neg c109]
          refine V_iconst 0 dX4_takesMorning_112 (by decide) ?_
          exact V_zret hX dX4_takesMorning_113 rfl (by first | exact Or.inl rfl | exact Or.inr rfl) (by rw [b2i_f (fun h => c109 h.2.2.1)]) (congrArg (cW A tc) (by rw [if_pos hk, if_pos (show tkP (σ 7 0) n (q + 1) 48 (48 + nI P - 1) from c83), if_neg (show ¬ dgP (σ 7 0) n (q + 2) from c109)]; try rfl))
      · try rw [b2i_eq] at c83
        try rw [Decidable.not_not] at c83
        rw [if_neg c83]
        refine V_iconst 0 dX4_takesMorning_86 (by decide) ?_
        exact V_zret hX dX4_takesMorning_87 rfl (by first | exact Or.inl rfl | exact Or.inr rfl) (by rw [b2i_f (fun h => c83 h.2.1)]) (congrArg (cW A tc) (by rw [if_pos hk, if_neg (show ¬ tkP (σ 7 0) n (q + 1) 48 (48 + nI P - 1) from c83)]; try rfl))
  · try rw [b2i_eq] at c8
    try rw [Decidable.not_not] at c8
    rw [if_neg c8]
    refine V_ald0 dX4_takesMorning_11 ?_
    refine V_bipush 102 dX4_takesMorning_12 (by decide) ?_
    refine V_bipush 102 dX4_takesMorning_14 (by decide) ?_
    refine V_callV lm_X4_41 (ok_takes hn h60 hq (by omega) _ _) dX4_takesMorning_16 cW_rd rfl (dep hX (by decide)) rfl (Nat.le_of_ble_eq_true rfl) ?_
    refine V_if_ne 35 dX4_takesMorning_19 (by decide) (fun c19 => ?_) (fun c19 => ?_)
    · try rw [b2i_ne] at c19
      try rw [Decidable.not_not] at c19
      rw [if_pos c19]
      have hk : kdP (σ 7 0) n q := Or.inr (Or.inl c19)
      refine V_ald1 dX4_takesMorning_35 ?_
      refine V_get lf_X4_64 dX4_takesMorning_36 (cW_mkt dra6) rfl ?_
      refine V_ild2 dX4_takesMorning_39 ?_
      refine V_ald0 dX4_takesMorning_40 ?_
      refine V_get lf_X4_22 dX4_takesMorning_41 cW_rd rfl ?_
      refine V_bipush 99 dX4_takesMorning_44 (by decide) ?_
      refine V_icmp_ne 53 dX4_takesMorning_46 (by decide) (fun c46 => ?_) (fun c46 => ?_)
      · refine V_ald0 dX4_takesMorning_53 ?_
        refine V_get lf_X4_22 dX4_takesMorning_54 cW_rd rfl ?_
        refine V_bipush 102 dX4_takesMorning_57 (by decide) ?_
        refine V_icmp_ne 66 dX4_takesMorning_59 (by decide) (fun c59 => ?_) (fun c59 => ?_)
        · refine V_iconst 2 dX4_takesMorning_66 (by decide) ?_
          refine V_top (y := kdI (σ 7 0 q)) (by unfold kdI; first | (rw [if_pos (show σ 7 0 q = 99 from c46)]) | (rw [if_neg (show ¬ σ 7 0 q = 99 from c46), if_pos (show σ 7 0 q = 102 from c59)]) | (rw [if_neg (show ¬ σ 7 0 q = 99 from c46), if_neg (show ¬ σ 7 0 q = 102 from c59)])) ?_
          refine V_iastk dX4_takesMorning_67 (cW_ma3 dra6) ⟨hm, by decide⟩ (cW_ma3s dra6 _ _) ?_
          refine V_ald0 dX4_takesMorning_68 ?_
          refine V_bipush 48 dX4_takesMorning_69 (by decide) ?_
          refine V_bipush 48 dX4_takesMorning_71 (by decide) ?_
          refine V_ald1 dX4_takesMorning_73 ?_
          refine V_get lf_X4_52 dX4_takesMorning_74 (cW_mkt dra6) rfl ?_
          refine V_top (y := nI P) hP ?_
          refine V_iadd dX4_takesMorning_77 ?_
          refine V_iconst 1 dX4_takesMorning_78 (by decide) ?_
          refine V_isub dX4_takesMorning_79 ?_
          refine V_callV lm_X4_41 (ok_takes (σ := tm1 σ q m) hn h60 rfl (by omega) _ _) dX4_takesMorning_80 cW_rd rfl (dep hX (by decide)) rfl (Nat.le_of_ble_eq_true rfl) ?_
          refine V_if_ne 88 dX4_takesMorning_83 (by decide) (fun c83 => ?_) (fun c83 => ?_)
          · try rw [b2i_ne] at c83
            try rw [Decidable.not_not] at c83
            rw [if_pos c83]
            refine V_ald1 dX4_takesMorning_88 ?_
            refine V_get lf_X4_67 dX4_takesMorning_89 (cW_mkt dra6) rfl ?_
            refine V_ild2 dX4_takesMorning_92 ?_
            refine V_ald0 dX4_takesMorning_93 ?_
            refine V_get lf_X4_22 dX4_takesMorning_94 cW_rd rfl ?_
            refine V_top (y := σ 7 0 (q + 1)) rfl ?_
            refine V_bipush 48 dX4_takesMorning_97 (by decide) ?_
            refine V_isub dX4_takesMorning_99 ?_
            refine V_iastk dX4_takesMorning_100 (cW_ma4 dra6) ⟨hm, by decide⟩ (cW_ma4s dra6 _ _) ?_
            refine V_ald0 dX4_takesMorning_101 ?_
            refine V_bipush 48 dX4_takesMorning_102 (by decide) ?_
            refine V_bipush 57 dX4_takesMorning_104 (by decide) ?_
            refine V_callV lm_X4_41 (ok_takes (σ := tm2 σ q m) hn h60 rfl (by omega) _ _) dX4_takesMorning_106 cW_rd rfl (dep hX (by decide)) rfl (Nat.le_of_ble_eq_true rfl) ?_
            refine V_if_ne 114 dX4_takesMorning_109 (by decide) (fun c109 => ?_) (fun c109 => ?_)
            · try rw [b2i_ne] at c109
              try rw [Decidable.not_not] at c109
              rw [if_pos c109]
              refine V_ald1 dX4_takesMorning_114 ?_
              refine V_get lf_X4_70 dX4_takesMorning_115 (cW_mkt dra6) rfl ?_
              refine V_ild2 dX4_takesMorning_118 ?_
              refine V_ald0 dX4_takesMorning_119 ?_
              refine V_get lf_X4_22 dX4_takesMorning_120 cW_rd rfl ?_
              refine V_top (y := σ 7 0 (q + 2)) rfl ?_
              refine V_bipush 48 dX4_takesMorning_123 (by decide) ?_
              refine V_isub dX4_takesMorning_125 ?_
              refine V_iastk dX4_takesMorning_126 (cW_ma5 dra6) ⟨hm, by decide⟩ (cW_ma5s dra6 _ _) ?_
              refine V_ald0 dX4_takesMorning_127 ?_
              refine V_bipush 48 dX4_takesMorning_128 (by decide) ?_
              refine V_bipush 57 dX4_takesMorning_130 (by decide) ?_
              refine V_callV lm_X4_41 (ok_takes (σ := tm3 σ q m) hn h60 rfl (by omega) _ _) dX4_takesMorning_132 cW_rd rfl (dep hX (by decide)) rfl (Nat.le_of_ble_eq_true rfl) ?_
              refine V_if_ne 140 dX4_takesMorning_135 (by decide) (fun c135 => ?_) (fun c135 => ?_)
              · try rw [b2i_ne] at c135
                try rw [Decidable.not_not] at c135
                rw [if_pos c135]
                refine V_ald1 dX4_takesMorning_140 ?_
                refine V_get lf_X4_73 dX4_takesMorning_141 (cW_mkt dra6) rfl ?_
                refine V_ild2 dX4_takesMorning_144 ?_
                refine V_ald0 dX4_takesMorning_145 ?_
                refine V_get lf_X4_22 dX4_takesMorning_146 cW_rd rfl ?_
                refine V_top (y := σ 7 0 (q + 3)) rfl ?_
                refine V_bipush 48 dX4_takesMorning_149 (by decide) ?_
                refine V_isub dX4_takesMorning_151 ?_
                refine V_iastk dX4_takesMorning_152 (cW_ma6 dra6) ⟨hm, by decide⟩ (cW_ma6s dra6 _ _) ?_
                refine V_ald1 dX4_takesMorning_153 ?_
                refine V_ild2 dX4_takesMorning_154 ?_
                refine V_iconst 1 dX4_takesMorning_155 (by decide) ?_
                refine V_iadd dX4_takesMorning_156 ?_
                refine V_puti lp_X4_58 dX4_takesMorning_157 (cW_mkt dra6) (Nat.le_of_ble_eq_true rfl) (cW_mktp10 dra6 _) ?_
                refine V_iconst 1 dX4_takesMorning_160 (by decide) ?_
                exact V_zret hX dX4_takesMorning_161 rfl (by first | exact Or.inl rfl | exact Or.inr rfl) (by rw [b2i_t ⟨hk, c83, c109, c135⟩]) (congrArg (cW A tc) (by rw [if_pos hk, if_pos (show tkP (σ 7 0) n (q + 1) 48 (48 + nI P - 1) from c83), if_pos (show dgP (σ 7 0) n (q + 2) from c109), if_pos (show dgP (σ 7 0) n (q + 3) from c135)]; try rfl))
              · try rw [b2i_eq] at c135
                try rw [Decidable.not_not] at c135
                rw [if_neg c135]
                refine V_iconst 0 dX4_takesMorning_138 (by decide) ?_
                exact V_zret hX dX4_takesMorning_139 rfl (by first | exact Or.inl rfl | exact Or.inr rfl) (by rw [b2i_f (fun h => c135 h.2.2.2)]) (congrArg (cW A tc) (by rw [if_pos hk, if_pos (show tkP (σ 7 0) n (q + 1) 48 (48 + nI P - 1) from c83), if_pos (show dgP (σ 7 0) n (q + 2) from c109), if_neg (show ¬ dgP (σ 7 0) n (q + 3) from c135)]; try rfl))
            · try rw [b2i_eq] at c109
              try rw [Decidable.not_not] at c109
              rw [if_neg c109]
              refine V_iconst 0 dX4_takesMorning_112 (by decide) ?_
              exact V_zret hX dX4_takesMorning_113 rfl (by first | exact Or.inl rfl | exact Or.inr rfl) (by rw [b2i_f (fun h => c109 h.2.2.1)]) (congrArg (cW A tc) (by rw [if_pos hk, if_pos (show tkP (σ 7 0) n (q + 1) 48 (48 + nI P - 1) from c83), if_neg (show ¬ dgP (σ 7 0) n (q + 2) from c109)]; try rfl))
          · try rw [b2i_eq] at c83
            try rw [Decidable.not_not] at c83
            rw [if_neg c83]
            refine V_iconst 0 dX4_takesMorning_86 (by decide) ?_
            exact V_zret hX dX4_takesMorning_87 rfl (by first | exact Or.inl rfl | exact Or.inr rfl) (by rw [b2i_f (fun h => c83 h.2.1)]) (congrArg (cW A tc) (by rw [if_pos hk, if_neg (show ¬ tkP (σ 7 0) n (q + 1) 48 (48 + nI P - 1) from c83)]; try rfl))
        · refine V_iconst 1 dX4_takesMorning_62 (by decide) ?_
          refine V_goto 67 dX4_takesMorning_63 (by decide) ?_
          refine V_top (y := kdI (σ 7 0 q)) (by unfold kdI; first | (rw [if_pos (show σ 7 0 q = 99 from c46)]) | (rw [if_neg (show ¬ σ 7 0 q = 99 from c46), if_pos (show σ 7 0 q = 102 from c59)]) | (rw [if_neg (show ¬ σ 7 0 q = 99 from c46), if_neg (show ¬ σ 7 0 q = 102 from c59)])) ?_
          refine V_iastk dX4_takesMorning_67 (cW_ma3 dra6) ⟨hm, by decide⟩ (cW_ma3s dra6 _ _) ?_
          refine V_ald0 dX4_takesMorning_68 ?_
          refine V_bipush 48 dX4_takesMorning_69 (by decide) ?_
          refine V_bipush 48 dX4_takesMorning_71 (by decide) ?_
          refine V_ald1 dX4_takesMorning_73 ?_
          refine V_get lf_X4_52 dX4_takesMorning_74 (cW_mkt dra6) rfl ?_
          refine V_top (y := nI P) hP ?_
          refine V_iadd dX4_takesMorning_77 ?_
          refine V_iconst 1 dX4_takesMorning_78 (by decide) ?_
          refine V_isub dX4_takesMorning_79 ?_
          refine V_callV lm_X4_41 (ok_takes (σ := tm1 σ q m) hn h60 rfl (by omega) _ _) dX4_takesMorning_80 cW_rd rfl (dep hX (by decide)) rfl (Nat.le_of_ble_eq_true rfl) ?_
          refine V_if_ne 88 dX4_takesMorning_83 (by decide) (fun c83 => ?_) (fun c83 => ?_)
          · try rw [b2i_ne] at c83
            try rw [Decidable.not_not] at c83
            rw [if_pos c83]
            refine V_ald1 dX4_takesMorning_88 ?_
            refine V_get lf_X4_67 dX4_takesMorning_89 (cW_mkt dra6) rfl ?_
            refine V_ild2 dX4_takesMorning_92 ?_
            refine V_ald0 dX4_takesMorning_93 ?_
            refine V_get lf_X4_22 dX4_takesMorning_94 cW_rd rfl ?_
            refine V_top (y := σ 7 0 (q + 1)) rfl ?_
            refine V_bipush 48 dX4_takesMorning_97 (by decide) ?_
            refine V_isub dX4_takesMorning_99 ?_
            refine V_iastk dX4_takesMorning_100 (cW_ma4 dra6) ⟨hm, by decide⟩ (cW_ma4s dra6 _ _) ?_
            refine V_ald0 dX4_takesMorning_101 ?_
            refine V_bipush 48 dX4_takesMorning_102 (by decide) ?_
            refine V_bipush 57 dX4_takesMorning_104 (by decide) ?_
            refine V_callV lm_X4_41 (ok_takes (σ := tm2 σ q m) hn h60 rfl (by omega) _ _) dX4_takesMorning_106 cW_rd rfl (dep hX (by decide)) rfl (Nat.le_of_ble_eq_true rfl) ?_
            refine V_if_ne 114 dX4_takesMorning_109 (by decide) (fun c109 => ?_) (fun c109 => ?_)
            · try rw [b2i_ne] at c109
              try rw [Decidable.not_not] at c109
              rw [if_pos c109]
              refine V_ald1 dX4_takesMorning_114 ?_
              refine V_get lf_X4_70 dX4_takesMorning_115 (cW_mkt dra6) rfl ?_
              refine V_ild2 dX4_takesMorning_118 ?_
              refine V_ald0 dX4_takesMorning_119 ?_
              refine V_get lf_X4_22 dX4_takesMorning_120 cW_rd rfl ?_
              refine V_top (y := σ 7 0 (q + 2)) rfl ?_
              refine V_bipush 48 dX4_takesMorning_123 (by decide) ?_
              refine V_isub dX4_takesMorning_125 ?_
              refine V_iastk dX4_takesMorning_126 (cW_ma5 dra6) ⟨hm, by decide⟩ (cW_ma5s dra6 _ _) ?_
              refine V_ald0 dX4_takesMorning_127 ?_
              refine V_bipush 48 dX4_takesMorning_128 (by decide) ?_
              refine V_bipush 57 dX4_takesMorning_130 (by decide) ?_
              refine V_callV lm_X4_41 (ok_takes (σ := tm3 σ q m) hn h60 rfl (by omega) _ _) dX4_takesMorning_132 cW_rd rfl (dep hX (by decide)) rfl (Nat.le_of_ble_eq_true rfl) ?_
              refine V_if_ne 140 dX4_takesMorning_135 (by decide) (fun c135 => ?_) (fun c135 => ?_)
              · try rw [b2i_ne] at c135
                try rw [Decidable.not_not] at c135
                rw [if_pos c135]
                refine V_ald1 dX4_takesMorning_140 ?_
                refine V_get lf_X4_73 dX4_takesMorning_141 (cW_mkt dra6) rfl ?_
                refine V_ild2 dX4_takesMorning_144 ?_
                refine V_ald0 dX4_takesMorning_145 ?_
                refine V_get lf_X4_22 dX4_takesMorning_146 cW_rd rfl ?_
                refine V_top (y := σ 7 0 (q + 3)) rfl ?_
                refine V_bipush 48 dX4_takesMorning_149 (by decide) ?_
                refine V_isub dX4_takesMorning_151 ?_
                refine V_iastk dX4_takesMorning_152 (cW_ma6 dra6) ⟨hm, by decide⟩ (cW_ma6s dra6 _ _) ?_
                refine V_ald1 dX4_takesMorning_153 ?_
                refine V_ild2 dX4_takesMorning_154 ?_
                refine V_iconst 1 dX4_takesMorning_155 (by decide) ?_
                refine V_iadd dX4_takesMorning_156 ?_
                refine V_puti lp_X4_58 dX4_takesMorning_157 (cW_mkt dra6) (Nat.le_of_ble_eq_true rfl) (cW_mktp10 dra6 _) ?_
                refine V_iconst 1 dX4_takesMorning_160 (by decide) ?_
                exact V_zret hX dX4_takesMorning_161 rfl (by first | exact Or.inl rfl | exact Or.inr rfl) (by rw [b2i_t ⟨hk, c83, c109, c135⟩]) (congrArg (cW A tc) (by rw [if_pos hk, if_pos (show tkP (σ 7 0) n (q + 1) 48 (48 + nI P - 1) from c83), if_pos (show dgP (σ 7 0) n (q + 2) from c109), if_pos (show dgP (σ 7 0) n (q + 3) from c135)]; try rfl))
              · try rw [b2i_eq] at c135
                try rw [Decidable.not_not] at c135
                rw [if_neg c135]
                refine V_iconst 0 dX4_takesMorning_138 (by decide) ?_
                exact V_zret hX dX4_takesMorning_139 rfl (by first | exact Or.inl rfl | exact Or.inr rfl) (by rw [b2i_f (fun h => c135 h.2.2.2)]) (congrArg (cW A tc) (by rw [if_pos hk, if_pos (show tkP (σ 7 0) n (q + 1) 48 (48 + nI P - 1) from c83), if_pos (show dgP (σ 7 0) n (q + 2) from c109), if_neg (show ¬ dgP (σ 7 0) n (q + 3) from c135)]; try rfl))
            · try rw [b2i_eq] at c109
              try rw [Decidable.not_not] at c109
              rw [if_neg c109]
              refine V_iconst 0 dX4_takesMorning_112 (by decide) ?_
              exact V_zret hX dX4_takesMorning_113 rfl (by first | exact Or.inl rfl | exact Or.inr rfl) (by rw [b2i_f (fun h => c109 h.2.2.1)]) (congrArg (cW A tc) (by rw [if_pos hk, if_pos (show tkP (σ 7 0) n (q + 1) 48 (48 + nI P - 1) from c83), if_neg (show ¬ dgP (σ 7 0) n (q + 2) from c109)]; try rfl))
          · try rw [b2i_eq] at c83
            try rw [Decidable.not_not] at c83
            rw [if_neg c83]
            refine V_iconst 0 dX4_takesMorning_86 (by decide) ?_
            exact V_zret hX dX4_takesMorning_87 rfl (by first | exact Or.inl rfl | exact Or.inr rfl) (by rw [b2i_f (fun h => c83 h.2.1)]) (congrArg (cW A tc) (by rw [if_pos hk, if_neg (show ¬ tkP (σ 7 0) n (q + 1) 48 (48 + nI P - 1) from c83)]; try rfl))
      · refine V_iconst 0 dX4_takesMorning_49 (by decide) ?_
        refine V_goto 67 dX4_takesMorning_50 (by decide) ?_
        refine V_top (y := kdI (σ 7 0 q)) (by unfold kdI; first | (rw [if_pos (show σ 7 0 q = 99 from c46)]) | (rw [if_neg (show ¬ σ 7 0 q = 99 from c46), if_pos (show σ 7 0 q = 102 from c59)]) | (rw [if_neg (show ¬ σ 7 0 q = 99 from c46), if_neg (show ¬ σ 7 0 q = 102 from c59)])) ?_
        refine V_iastk dX4_takesMorning_67 (cW_ma3 dra6) ⟨hm, by decide⟩ (cW_ma3s dra6 _ _) ?_
        refine V_ald0 dX4_takesMorning_68 ?_
        refine V_bipush 48 dX4_takesMorning_69 (by decide) ?_
        refine V_bipush 48 dX4_takesMorning_71 (by decide) ?_
        refine V_ald1 dX4_takesMorning_73 ?_
        refine V_get lf_X4_52 dX4_takesMorning_74 (cW_mkt dra6) rfl ?_
        refine V_top (y := nI P) hP ?_
        refine V_iadd dX4_takesMorning_77 ?_
        refine V_iconst 1 dX4_takesMorning_78 (by decide) ?_
        refine V_isub dX4_takesMorning_79 ?_
        refine V_callV lm_X4_41 (ok_takes (σ := tm1 σ q m) hn h60 rfl (by omega) _ _) dX4_takesMorning_80 cW_rd rfl (dep hX (by decide)) rfl (Nat.le_of_ble_eq_true rfl) ?_
        refine V_if_ne 88 dX4_takesMorning_83 (by decide) (fun c83 => ?_) (fun c83 => ?_)
        · try rw [b2i_ne] at c83
          try rw [Decidable.not_not] at c83
          rw [if_pos c83]
          refine V_ald1 dX4_takesMorning_88 ?_
          refine V_get lf_X4_67 dX4_takesMorning_89 (cW_mkt dra6) rfl ?_
          refine V_ild2 dX4_takesMorning_92 ?_
          refine V_ald0 dX4_takesMorning_93 ?_
          refine V_get lf_X4_22 dX4_takesMorning_94 cW_rd rfl ?_
          refine V_top (y := σ 7 0 (q + 1)) rfl ?_
          refine V_bipush 48 dX4_takesMorning_97 (by decide) ?_
          refine V_isub dX4_takesMorning_99 ?_
          refine V_iastk dX4_takesMorning_100 (cW_ma4 dra6) ⟨hm, by decide⟩ (cW_ma4s dra6 _ _) ?_
          refine V_ald0 dX4_takesMorning_101 ?_
          refine V_bipush 48 dX4_takesMorning_102 (by decide) ?_
          refine V_bipush 57 dX4_takesMorning_104 (by decide) ?_
          refine V_callV lm_X4_41 (ok_takes (σ := tm2 σ q m) hn h60 rfl (by omega) _ _) dX4_takesMorning_106 cW_rd rfl (dep hX (by decide)) rfl (Nat.le_of_ble_eq_true rfl) ?_
          refine V_if_ne 114 dX4_takesMorning_109 (by decide) (fun c109 => ?_) (fun c109 => ?_)
          · try rw [b2i_ne] at c109
            try rw [Decidable.not_not] at c109
            rw [if_pos c109]
            refine V_ald1 dX4_takesMorning_114 ?_
            refine V_get lf_X4_70 dX4_takesMorning_115 (cW_mkt dra6) rfl ?_
            refine V_ild2 dX4_takesMorning_118 ?_
            refine V_ald0 dX4_takesMorning_119 ?_
            refine V_get lf_X4_22 dX4_takesMorning_120 cW_rd rfl ?_
            refine V_top (y := σ 7 0 (q + 2)) rfl ?_
            refine V_bipush 48 dX4_takesMorning_123 (by decide) ?_
            refine V_isub dX4_takesMorning_125 ?_
            refine V_iastk dX4_takesMorning_126 (cW_ma5 dra6) ⟨hm, by decide⟩ (cW_ma5s dra6 _ _) ?_
            refine V_ald0 dX4_takesMorning_127 ?_
            refine V_bipush 48 dX4_takesMorning_128 (by decide) ?_
            refine V_bipush 57 dX4_takesMorning_130 (by decide) ?_
            refine V_callV lm_X4_41 (ok_takes (σ := tm3 σ q m) hn h60 rfl (by omega) _ _) dX4_takesMorning_132 cW_rd rfl (dep hX (by decide)) rfl (Nat.le_of_ble_eq_true rfl) ?_
            refine V_if_ne 140 dX4_takesMorning_135 (by decide) (fun c135 => ?_) (fun c135 => ?_)
            · try rw [b2i_ne] at c135
              try rw [Decidable.not_not] at c135
              rw [if_pos c135]
              refine V_ald1 dX4_takesMorning_140 ?_
              refine V_get lf_X4_73 dX4_takesMorning_141 (cW_mkt dra6) rfl ?_
              refine V_ild2 dX4_takesMorning_144 ?_
              refine V_ald0 dX4_takesMorning_145 ?_
              refine V_get lf_X4_22 dX4_takesMorning_146 cW_rd rfl ?_
              refine V_top (y := σ 7 0 (q + 3)) rfl ?_
              refine V_bipush 48 dX4_takesMorning_149 (by decide) ?_
              refine V_isub dX4_takesMorning_151 ?_
              refine V_iastk dX4_takesMorning_152 (cW_ma6 dra6) ⟨hm, by decide⟩ (cW_ma6s dra6 _ _) ?_
              refine V_ald1 dX4_takesMorning_153 ?_
              refine V_ild2 dX4_takesMorning_154 ?_
              refine V_iconst 1 dX4_takesMorning_155 (by decide) ?_
              refine V_iadd dX4_takesMorning_156 ?_
              refine V_puti lp_X4_58 dX4_takesMorning_157 (cW_mkt dra6) (Nat.le_of_ble_eq_true rfl) (cW_mktp10 dra6 _) ?_
              refine V_iconst 1 dX4_takesMorning_160 (by decide) ?_
              exact V_zret hX dX4_takesMorning_161 rfl (by first | exact Or.inl rfl | exact Or.inr rfl) (by rw [b2i_t ⟨hk, c83, c109, c135⟩]) (congrArg (cW A tc) (by rw [if_pos hk, if_pos (show tkP (σ 7 0) n (q + 1) 48 (48 + nI P - 1) from c83), if_pos (show dgP (σ 7 0) n (q + 2) from c109), if_pos (show dgP (σ 7 0) n (q + 3) from c135)]; try rfl))
            · try rw [b2i_eq] at c135
              try rw [Decidable.not_not] at c135
              rw [if_neg c135]
              refine V_iconst 0 dX4_takesMorning_138 (by decide) ?_
              exact V_zret hX dX4_takesMorning_139 rfl (by first | exact Or.inl rfl | exact Or.inr rfl) (by rw [b2i_f (fun h => c135 h.2.2.2)]) (congrArg (cW A tc) (by rw [if_pos hk, if_pos (show tkP (σ 7 0) n (q + 1) 48 (48 + nI P - 1) from c83), if_pos (show dgP (σ 7 0) n (q + 2) from c109), if_neg (show ¬ dgP (σ 7 0) n (q + 3) from c135)]; try rfl))
          · try rw [b2i_eq] at c109
            try rw [Decidable.not_not] at c109
            rw [if_neg c109]
            refine V_iconst 0 dX4_takesMorning_112 (by decide) ?_
            exact V_zret hX dX4_takesMorning_113 rfl (by first | exact Or.inl rfl | exact Or.inr rfl) (by rw [b2i_f (fun h => c109 h.2.2.1)]) (congrArg (cW A tc) (by rw [if_pos hk, if_pos (show tkP (σ 7 0) n (q + 1) 48 (48 + nI P - 1) from c83), if_neg (show ¬ dgP (σ 7 0) n (q + 2) from c109)]; try rfl))
        · try rw [b2i_eq] at c83
          try rw [Decidable.not_not] at c83
          rw [if_neg c83]
          refine V_iconst 0 dX4_takesMorning_86 (by decide) ?_
          exact V_zret hX dX4_takesMorning_87 rfl (by first | exact Or.inl rfl | exact Or.inr rfl) (by rw [b2i_f (fun h => c83 h.2.1)]) (congrArg (cW A tc) (by rw [if_pos hk, if_neg (show ¬ tkP (σ 7 0) n (q + 1) 48 (48 + nI P - 1) from c83)]; try rfl))
    · try rw [b2i_eq] at c19
      try rw [Decidable.not_not] at c19
      rw [if_neg c19]
      refine V_ald0 dX4_takesMorning_22 ?_
      refine V_bipush 112 dX4_takesMorning_23 (by decide) ?_
      refine V_bipush 112 dX4_takesMorning_25 (by decide) ?_
      refine V_callV lm_X4_41 (ok_takes hn h60 hq (by omega) _ _) dX4_takesMorning_27 cW_rd rfl (dep hX (by decide)) rfl (Nat.le_of_ble_eq_true rfl) ?_
      refine V_if_ne 35 dX4_takesMorning_30 (by decide) (fun c30 => ?_) (fun c30 => ?_)
      · try rw [b2i_ne] at c30
        try rw [Decidable.not_not] at c30
        rw [if_pos c30]
        have hk : kdP (σ 7 0) n q := Or.inr (Or.inr c30)
        refine V_ald1 dX4_takesMorning_35 ?_
        refine V_get lf_X4_64 dX4_takesMorning_36 (cW_mkt dra6) rfl ?_
        refine V_ild2 dX4_takesMorning_39 ?_
        refine V_ald0 dX4_takesMorning_40 ?_
        refine V_get lf_X4_22 dX4_takesMorning_41 cW_rd rfl ?_
        refine V_bipush 99 dX4_takesMorning_44 (by decide) ?_
        refine V_icmp_ne 53 dX4_takesMorning_46 (by decide) (fun c46 => ?_) (fun c46 => ?_)
        · refine V_ald0 dX4_takesMorning_53 ?_
          refine V_get lf_X4_22 dX4_takesMorning_54 cW_rd rfl ?_
          refine V_bipush 102 dX4_takesMorning_57 (by decide) ?_
          refine V_icmp_ne 66 dX4_takesMorning_59 (by decide) (fun c59 => ?_) (fun c59 => ?_)
          · refine V_iconst 2 dX4_takesMorning_66 (by decide) ?_
            refine V_top (y := kdI (σ 7 0 q)) (by unfold kdI; first | (rw [if_pos (show σ 7 0 q = 99 from c46)]) | (rw [if_neg (show ¬ σ 7 0 q = 99 from c46), if_pos (show σ 7 0 q = 102 from c59)]) | (rw [if_neg (show ¬ σ 7 0 q = 99 from c46), if_neg (show ¬ σ 7 0 q = 102 from c59)])) ?_
            refine V_iastk dX4_takesMorning_67 (cW_ma3 dra6) ⟨hm, by decide⟩ (cW_ma3s dra6 _ _) ?_
            refine V_ald0 dX4_takesMorning_68 ?_
            refine V_bipush 48 dX4_takesMorning_69 (by decide) ?_
            refine V_bipush 48 dX4_takesMorning_71 (by decide) ?_
            refine V_ald1 dX4_takesMorning_73 ?_
            refine V_get lf_X4_52 dX4_takesMorning_74 (cW_mkt dra6) rfl ?_
            refine V_top (y := nI P) hP ?_
            refine V_iadd dX4_takesMorning_77 ?_
            refine V_iconst 1 dX4_takesMorning_78 (by decide) ?_
            refine V_isub dX4_takesMorning_79 ?_
            refine V_callV lm_X4_41 (ok_takes (σ := tm1 σ q m) hn h60 rfl (by omega) _ _) dX4_takesMorning_80 cW_rd rfl (dep hX (by decide)) rfl (Nat.le_of_ble_eq_true rfl) ?_
            refine V_if_ne 88 dX4_takesMorning_83 (by decide) (fun c83 => ?_) (fun c83 => ?_)
            · try rw [b2i_ne] at c83
              try rw [Decidable.not_not] at c83
              rw [if_pos c83]
              refine V_ald1 dX4_takesMorning_88 ?_
              refine V_get lf_X4_67 dX4_takesMorning_89 (cW_mkt dra6) rfl ?_
              refine V_ild2 dX4_takesMorning_92 ?_
              refine V_ald0 dX4_takesMorning_93 ?_
              refine V_get lf_X4_22 dX4_takesMorning_94 cW_rd rfl ?_
              refine V_top (y := σ 7 0 (q + 1)) rfl ?_
              refine V_bipush 48 dX4_takesMorning_97 (by decide) ?_
              refine V_isub dX4_takesMorning_99 ?_
              refine V_iastk dX4_takesMorning_100 (cW_ma4 dra6) ⟨hm, by decide⟩ (cW_ma4s dra6 _ _) ?_
              refine V_ald0 dX4_takesMorning_101 ?_
              refine V_bipush 48 dX4_takesMorning_102 (by decide) ?_
              refine V_bipush 57 dX4_takesMorning_104 (by decide) ?_
              refine V_callV lm_X4_41 (ok_takes (σ := tm2 σ q m) hn h60 rfl (by omega) _ _) dX4_takesMorning_106 cW_rd rfl (dep hX (by decide)) rfl (Nat.le_of_ble_eq_true rfl) ?_
              refine V_if_ne 114 dX4_takesMorning_109 (by decide) (fun c109 => ?_) (fun c109 => ?_)
              · try rw [b2i_ne] at c109
                try rw [Decidable.not_not] at c109
                rw [if_pos c109]
                refine V_ald1 dX4_takesMorning_114 ?_
                refine V_get lf_X4_70 dX4_takesMorning_115 (cW_mkt dra6) rfl ?_
                refine V_ild2 dX4_takesMorning_118 ?_
                refine V_ald0 dX4_takesMorning_119 ?_
                refine V_get lf_X4_22 dX4_takesMorning_120 cW_rd rfl ?_
                refine V_top (y := σ 7 0 (q + 2)) rfl ?_
                refine V_bipush 48 dX4_takesMorning_123 (by decide) ?_
                refine V_isub dX4_takesMorning_125 ?_
                refine V_iastk dX4_takesMorning_126 (cW_ma5 dra6) ⟨hm, by decide⟩ (cW_ma5s dra6 _ _) ?_
                refine V_ald0 dX4_takesMorning_127 ?_
                refine V_bipush 48 dX4_takesMorning_128 (by decide) ?_
                refine V_bipush 57 dX4_takesMorning_130 (by decide) ?_
                refine V_callV lm_X4_41 (ok_takes (σ := tm3 σ q m) hn h60 rfl (by omega) _ _) dX4_takesMorning_132 cW_rd rfl (dep hX (by decide)) rfl (Nat.le_of_ble_eq_true rfl) ?_
                refine V_if_ne 140 dX4_takesMorning_135 (by decide) (fun c135 => ?_) (fun c135 => ?_)
                · try rw [b2i_ne] at c135
                  try rw [Decidable.not_not] at c135
                  rw [if_pos c135]
                  refine V_ald1 dX4_takesMorning_140 ?_
                  refine V_get lf_X4_73 dX4_takesMorning_141 (cW_mkt dra6) rfl ?_
                  refine V_ild2 dX4_takesMorning_144 ?_
                  refine V_ald0 dX4_takesMorning_145 ?_
                  refine V_get lf_X4_22 dX4_takesMorning_146 cW_rd rfl ?_
                  refine V_top (y := σ 7 0 (q + 3)) rfl ?_
                  refine V_bipush 48 dX4_takesMorning_149 (by decide) ?_
                  refine V_isub dX4_takesMorning_151 ?_
                  refine V_iastk dX4_takesMorning_152 (cW_ma6 dra6) ⟨hm, by decide⟩ (cW_ma6s dra6 _ _) ?_
                  refine V_ald1 dX4_takesMorning_153 ?_
                  refine V_ild2 dX4_takesMorning_154 ?_
                  refine V_iconst 1 dX4_takesMorning_155 (by decide) ?_
                  refine V_iadd dX4_takesMorning_156 ?_
                  refine V_puti lp_X4_58 dX4_takesMorning_157 (cW_mkt dra6) (Nat.le_of_ble_eq_true rfl) (cW_mktp10 dra6 _) ?_
                  refine V_iconst 1 dX4_takesMorning_160 (by decide) ?_
                  exact V_zret hX dX4_takesMorning_161 rfl (by first | exact Or.inl rfl | exact Or.inr rfl) (by rw [b2i_t ⟨hk, c83, c109, c135⟩]) (congrArg (cW A tc) (by rw [if_pos hk, if_pos (show tkP (σ 7 0) n (q + 1) 48 (48 + nI P - 1) from c83), if_pos (show dgP (σ 7 0) n (q + 2) from c109), if_pos (show dgP (σ 7 0) n (q + 3) from c135)]; try rfl))
                · try rw [b2i_eq] at c135
                  try rw [Decidable.not_not] at c135
                  rw [if_neg c135]
                  refine V_iconst 0 dX4_takesMorning_138 (by decide) ?_
                  exact V_zret hX dX4_takesMorning_139 rfl (by first | exact Or.inl rfl | exact Or.inr rfl) (by rw [b2i_f (fun h => c135 h.2.2.2)]) (congrArg (cW A tc) (by rw [if_pos hk, if_pos (show tkP (σ 7 0) n (q + 1) 48 (48 + nI P - 1) from c83), if_pos (show dgP (σ 7 0) n (q + 2) from c109), if_neg (show ¬ dgP (σ 7 0) n (q + 3) from c135)]; try rfl))
              · try rw [b2i_eq] at c109
                try rw [Decidable.not_not] at c109
                rw [if_neg c109]
                refine V_iconst 0 dX4_takesMorning_112 (by decide) ?_
                exact V_zret hX dX4_takesMorning_113 rfl (by first | exact Or.inl rfl | exact Or.inr rfl) (by rw [b2i_f (fun h => c109 h.2.2.1)]) (congrArg (cW A tc) (by rw [if_pos hk, if_pos (show tkP (σ 7 0) n (q + 1) 48 (48 + nI P - 1) from c83), if_neg (show ¬ dgP (σ 7 0) n (q + 2) from c109)]; try rfl))
            · try rw [b2i_eq] at c83
              try rw [Decidable.not_not] at c83
              rw [if_neg c83]
              refine V_iconst 0 dX4_takesMorning_86 (by decide) ?_
              exact V_zret hX dX4_takesMorning_87 rfl (by first | exact Or.inl rfl | exact Or.inr rfl) (by rw [b2i_f (fun h => c83 h.2.1)]) (congrArg (cW A tc) (by rw [if_pos hk, if_neg (show ¬ tkP (σ 7 0) n (q + 1) 48 (48 + nI P - 1) from c83)]; try rfl))
          · refine V_iconst 1 dX4_takesMorning_62 (by decide) ?_
            refine V_goto 67 dX4_takesMorning_63 (by decide) ?_
            refine V_top (y := kdI (σ 7 0 q)) (by unfold kdI; first | (rw [if_pos (show σ 7 0 q = 99 from c46)]) | (rw [if_neg (show ¬ σ 7 0 q = 99 from c46), if_pos (show σ 7 0 q = 102 from c59)]) | (rw [if_neg (show ¬ σ 7 0 q = 99 from c46), if_neg (show ¬ σ 7 0 q = 102 from c59)])) ?_
            refine V_iastk dX4_takesMorning_67 (cW_ma3 dra6) ⟨hm, by decide⟩ (cW_ma3s dra6 _ _) ?_
            refine V_ald0 dX4_takesMorning_68 ?_
            refine V_bipush 48 dX4_takesMorning_69 (by decide) ?_
            refine V_bipush 48 dX4_takesMorning_71 (by decide) ?_
            refine V_ald1 dX4_takesMorning_73 ?_
            refine V_get lf_X4_52 dX4_takesMorning_74 (cW_mkt dra6) rfl ?_
            refine V_top (y := nI P) hP ?_
            refine V_iadd dX4_takesMorning_77 ?_
            refine V_iconst 1 dX4_takesMorning_78 (by decide) ?_
            refine V_isub dX4_takesMorning_79 ?_
            refine V_callV lm_X4_41 (ok_takes (σ := tm1 σ q m) hn h60 rfl (by omega) _ _) dX4_takesMorning_80 cW_rd rfl (dep hX (by decide)) rfl (Nat.le_of_ble_eq_true rfl) ?_
            refine V_if_ne 88 dX4_takesMorning_83 (by decide) (fun c83 => ?_) (fun c83 => ?_)
            · try rw [b2i_ne] at c83
              try rw [Decidable.not_not] at c83
              rw [if_pos c83]
              refine V_ald1 dX4_takesMorning_88 ?_
              refine V_get lf_X4_67 dX4_takesMorning_89 (cW_mkt dra6) rfl ?_
              refine V_ild2 dX4_takesMorning_92 ?_
              refine V_ald0 dX4_takesMorning_93 ?_
              refine V_get lf_X4_22 dX4_takesMorning_94 cW_rd rfl ?_
              refine V_top (y := σ 7 0 (q + 1)) rfl ?_
              refine V_bipush 48 dX4_takesMorning_97 (by decide) ?_
              refine V_isub dX4_takesMorning_99 ?_
              refine V_iastk dX4_takesMorning_100 (cW_ma4 dra6) ⟨hm, by decide⟩ (cW_ma4s dra6 _ _) ?_
              refine V_ald0 dX4_takesMorning_101 ?_
              refine V_bipush 48 dX4_takesMorning_102 (by decide) ?_
              refine V_bipush 57 dX4_takesMorning_104 (by decide) ?_
              refine V_callV lm_X4_41 (ok_takes (σ := tm2 σ q m) hn h60 rfl (by omega) _ _) dX4_takesMorning_106 cW_rd rfl (dep hX (by decide)) rfl (Nat.le_of_ble_eq_true rfl) ?_
              refine V_if_ne 114 dX4_takesMorning_109 (by decide) (fun c109 => ?_) (fun c109 => ?_)
              · try rw [b2i_ne] at c109
                try rw [Decidable.not_not] at c109
                rw [if_pos c109]
                refine V_ald1 dX4_takesMorning_114 ?_
                refine V_get lf_X4_70 dX4_takesMorning_115 (cW_mkt dra6) rfl ?_
                refine V_ild2 dX4_takesMorning_118 ?_
                refine V_ald0 dX4_takesMorning_119 ?_
                refine V_get lf_X4_22 dX4_takesMorning_120 cW_rd rfl ?_
                refine V_top (y := σ 7 0 (q + 2)) rfl ?_
                refine V_bipush 48 dX4_takesMorning_123 (by decide) ?_
                refine V_isub dX4_takesMorning_125 ?_
                refine V_iastk dX4_takesMorning_126 (cW_ma5 dra6) ⟨hm, by decide⟩ (cW_ma5s dra6 _ _) ?_
                refine V_ald0 dX4_takesMorning_127 ?_
                refine V_bipush 48 dX4_takesMorning_128 (by decide) ?_
                refine V_bipush 57 dX4_takesMorning_130 (by decide) ?_
                refine V_callV lm_X4_41 (ok_takes (σ := tm3 σ q m) hn h60 rfl (by omega) _ _) dX4_takesMorning_132 cW_rd rfl (dep hX (by decide)) rfl (Nat.le_of_ble_eq_true rfl) ?_
                refine V_if_ne 140 dX4_takesMorning_135 (by decide) (fun c135 => ?_) (fun c135 => ?_)
                · try rw [b2i_ne] at c135
                  try rw [Decidable.not_not] at c135
                  rw [if_pos c135]
                  refine V_ald1 dX4_takesMorning_140 ?_
                  refine V_get lf_X4_73 dX4_takesMorning_141 (cW_mkt dra6) rfl ?_
                  refine V_ild2 dX4_takesMorning_144 ?_
                  refine V_ald0 dX4_takesMorning_145 ?_
                  refine V_get lf_X4_22 dX4_takesMorning_146 cW_rd rfl ?_
                  refine V_top (y := σ 7 0 (q + 3)) rfl ?_
                  refine V_bipush 48 dX4_takesMorning_149 (by decide) ?_
                  refine V_isub dX4_takesMorning_151 ?_
                  refine V_iastk dX4_takesMorning_152 (cW_ma6 dra6) ⟨hm, by decide⟩ (cW_ma6s dra6 _ _) ?_
                  refine V_ald1 dX4_takesMorning_153 ?_
                  refine V_ild2 dX4_takesMorning_154 ?_
                  refine V_iconst 1 dX4_takesMorning_155 (by decide) ?_
                  refine V_iadd dX4_takesMorning_156 ?_
                  refine V_puti lp_X4_58 dX4_takesMorning_157 (cW_mkt dra6) (Nat.le_of_ble_eq_true rfl) (cW_mktp10 dra6 _) ?_
                  refine V_iconst 1 dX4_takesMorning_160 (by decide) ?_
                  exact V_zret hX dX4_takesMorning_161 rfl (by first | exact Or.inl rfl | exact Or.inr rfl) (by rw [b2i_t ⟨hk, c83, c109, c135⟩]) (congrArg (cW A tc) (by rw [if_pos hk, if_pos (show tkP (σ 7 0) n (q + 1) 48 (48 + nI P - 1) from c83), if_pos (show dgP (σ 7 0) n (q + 2) from c109), if_pos (show dgP (σ 7 0) n (q + 3) from c135)]; try rfl))
                · try rw [b2i_eq] at c135
                  try rw [Decidable.not_not] at c135
                  rw [if_neg c135]
                  refine V_iconst 0 dX4_takesMorning_138 (by decide) ?_
                  exact V_zret hX dX4_takesMorning_139 rfl (by first | exact Or.inl rfl | exact Or.inr rfl) (by rw [b2i_f (fun h => c135 h.2.2.2)]) (congrArg (cW A tc) (by rw [if_pos hk, if_pos (show tkP (σ 7 0) n (q + 1) 48 (48 + nI P - 1) from c83), if_pos (show dgP (σ 7 0) n (q + 2) from c109), if_neg (show ¬ dgP (σ 7 0) n (q + 3) from c135)]; try rfl))
              · try rw [b2i_eq] at c109
                try rw [Decidable.not_not] at c109
                rw [if_neg c109]
                refine V_iconst 0 dX4_takesMorning_112 (by decide) ?_
                exact V_zret hX dX4_takesMorning_113 rfl (by first | exact Or.inl rfl | exact Or.inr rfl) (by rw [b2i_f (fun h => c109 h.2.2.1)]) (congrArg (cW A tc) (by rw [if_pos hk, if_pos (show tkP (σ 7 0) n (q + 1) 48 (48 + nI P - 1) from c83), if_neg (show ¬ dgP (σ 7 0) n (q + 2) from c109)]; try rfl))
            · try rw [b2i_eq] at c83
              try rw [Decidable.not_not] at c83
              rw [if_neg c83]
              refine V_iconst 0 dX4_takesMorning_86 (by decide) ?_
              exact V_zret hX dX4_takesMorning_87 rfl (by first | exact Or.inl rfl | exact Or.inr rfl) (by rw [b2i_f (fun h => c83 h.2.1)]) (congrArg (cW A tc) (by rw [if_pos hk, if_neg (show ¬ tkP (σ 7 0) n (q + 1) 48 (48 + nI P - 1) from c83)]; try rfl))
        · refine V_iconst 0 dX4_takesMorning_49 (by decide) ?_
          refine V_goto 67 dX4_takesMorning_50 (by decide) ?_
          refine V_top (y := kdI (σ 7 0 q)) (by unfold kdI; first | (rw [if_pos (show σ 7 0 q = 99 from c46)]) | (rw [if_neg (show ¬ σ 7 0 q = 99 from c46), if_pos (show σ 7 0 q = 102 from c59)]) | (rw [if_neg (show ¬ σ 7 0 q = 99 from c46), if_neg (show ¬ σ 7 0 q = 102 from c59)])) ?_
          refine V_iastk dX4_takesMorning_67 (cW_ma3 dra6) ⟨hm, by decide⟩ (cW_ma3s dra6 _ _) ?_
          refine V_ald0 dX4_takesMorning_68 ?_
          refine V_bipush 48 dX4_takesMorning_69 (by decide) ?_
          refine V_bipush 48 dX4_takesMorning_71 (by decide) ?_
          refine V_ald1 dX4_takesMorning_73 ?_
          refine V_get lf_X4_52 dX4_takesMorning_74 (cW_mkt dra6) rfl ?_
          refine V_top (y := nI P) hP ?_
          refine V_iadd dX4_takesMorning_77 ?_
          refine V_iconst 1 dX4_takesMorning_78 (by decide) ?_
          refine V_isub dX4_takesMorning_79 ?_
          refine V_callV lm_X4_41 (ok_takes (σ := tm1 σ q m) hn h60 rfl (by omega) _ _) dX4_takesMorning_80 cW_rd rfl (dep hX (by decide)) rfl (Nat.le_of_ble_eq_true rfl) ?_
          refine V_if_ne 88 dX4_takesMorning_83 (by decide) (fun c83 => ?_) (fun c83 => ?_)
          · try rw [b2i_ne] at c83
            try rw [Decidable.not_not] at c83
            rw [if_pos c83]
            refine V_ald1 dX4_takesMorning_88 ?_
            refine V_get lf_X4_67 dX4_takesMorning_89 (cW_mkt dra6) rfl ?_
            refine V_ild2 dX4_takesMorning_92 ?_
            refine V_ald0 dX4_takesMorning_93 ?_
            refine V_get lf_X4_22 dX4_takesMorning_94 cW_rd rfl ?_
            refine V_top (y := σ 7 0 (q + 1)) rfl ?_
            refine V_bipush 48 dX4_takesMorning_97 (by decide) ?_
            refine V_isub dX4_takesMorning_99 ?_
            refine V_iastk dX4_takesMorning_100 (cW_ma4 dra6) ⟨hm, by decide⟩ (cW_ma4s dra6 _ _) ?_
            refine V_ald0 dX4_takesMorning_101 ?_
            refine V_bipush 48 dX4_takesMorning_102 (by decide) ?_
            refine V_bipush 57 dX4_takesMorning_104 (by decide) ?_
            refine V_callV lm_X4_41 (ok_takes (σ := tm2 σ q m) hn h60 rfl (by omega) _ _) dX4_takesMorning_106 cW_rd rfl (dep hX (by decide)) rfl (Nat.le_of_ble_eq_true rfl) ?_
            refine V_if_ne 114 dX4_takesMorning_109 (by decide) (fun c109 => ?_) (fun c109 => ?_)
            · try rw [b2i_ne] at c109
              try rw [Decidable.not_not] at c109
              rw [if_pos c109]
              refine V_ald1 dX4_takesMorning_114 ?_
              refine V_get lf_X4_70 dX4_takesMorning_115 (cW_mkt dra6) rfl ?_
              refine V_ild2 dX4_takesMorning_118 ?_
              refine V_ald0 dX4_takesMorning_119 ?_
              refine V_get lf_X4_22 dX4_takesMorning_120 cW_rd rfl ?_
              refine V_top (y := σ 7 0 (q + 2)) rfl ?_
              refine V_bipush 48 dX4_takesMorning_123 (by decide) ?_
              refine V_isub dX4_takesMorning_125 ?_
              refine V_iastk dX4_takesMorning_126 (cW_ma5 dra6) ⟨hm, by decide⟩ (cW_ma5s dra6 _ _) ?_
              refine V_ald0 dX4_takesMorning_127 ?_
              refine V_bipush 48 dX4_takesMorning_128 (by decide) ?_
              refine V_bipush 57 dX4_takesMorning_130 (by decide) ?_
              refine V_callV lm_X4_41 (ok_takes (σ := tm3 σ q m) hn h60 rfl (by omega) _ _) dX4_takesMorning_132 cW_rd rfl (dep hX (by decide)) rfl (Nat.le_of_ble_eq_true rfl) ?_
              refine V_if_ne 140 dX4_takesMorning_135 (by decide) (fun c135 => ?_) (fun c135 => ?_)
              · try rw [b2i_ne] at c135
                try rw [Decidable.not_not] at c135
                rw [if_pos c135]
                refine V_ald1 dX4_takesMorning_140 ?_
                refine V_get lf_X4_73 dX4_takesMorning_141 (cW_mkt dra6) rfl ?_
                refine V_ild2 dX4_takesMorning_144 ?_
                refine V_ald0 dX4_takesMorning_145 ?_
                refine V_get lf_X4_22 dX4_takesMorning_146 cW_rd rfl ?_
                refine V_top (y := σ 7 0 (q + 3)) rfl ?_
                refine V_bipush 48 dX4_takesMorning_149 (by decide) ?_
                refine V_isub dX4_takesMorning_151 ?_
                refine V_iastk dX4_takesMorning_152 (cW_ma6 dra6) ⟨hm, by decide⟩ (cW_ma6s dra6 _ _) ?_
                refine V_ald1 dX4_takesMorning_153 ?_
                refine V_ild2 dX4_takesMorning_154 ?_
                refine V_iconst 1 dX4_takesMorning_155 (by decide) ?_
                refine V_iadd dX4_takesMorning_156 ?_
                refine V_puti lp_X4_58 dX4_takesMorning_157 (cW_mkt dra6) (Nat.le_of_ble_eq_true rfl) (cW_mktp10 dra6 _) ?_
                refine V_iconst 1 dX4_takesMorning_160 (by decide) ?_
                exact V_zret hX dX4_takesMorning_161 rfl (by first | exact Or.inl rfl | exact Or.inr rfl) (by rw [b2i_t ⟨hk, c83, c109, c135⟩]) (congrArg (cW A tc) (by rw [if_pos hk, if_pos (show tkP (σ 7 0) n (q + 1) 48 (48 + nI P - 1) from c83), if_pos (show dgP (σ 7 0) n (q + 2) from c109), if_pos (show dgP (σ 7 0) n (q + 3) from c135)]; try rfl))
              · try rw [b2i_eq] at c135
                try rw [Decidable.not_not] at c135
                rw [if_neg c135]
                refine V_iconst 0 dX4_takesMorning_138 (by decide) ?_
                exact V_zret hX dX4_takesMorning_139 rfl (by first | exact Or.inl rfl | exact Or.inr rfl) (by rw [b2i_f (fun h => c135 h.2.2.2)]) (congrArg (cW A tc) (by rw [if_pos hk, if_pos (show tkP (σ 7 0) n (q + 1) 48 (48 + nI P - 1) from c83), if_pos (show dgP (σ 7 0) n (q + 2) from c109), if_neg (show ¬ dgP (σ 7 0) n (q + 3) from c135)]; try rfl))
            · try rw [b2i_eq] at c109
              try rw [Decidable.not_not] at c109
              rw [if_neg c109]
              refine V_iconst 0 dX4_takesMorning_112 (by decide) ?_
              exact V_zret hX dX4_takesMorning_113 rfl (by first | exact Or.inl rfl | exact Or.inr rfl) (by rw [b2i_f (fun h => c109 h.2.2.1)]) (congrArg (cW A tc) (by rw [if_pos hk, if_pos (show tkP (σ 7 0) n (q + 1) 48 (48 + nI P - 1) from c83), if_neg (show ¬ dgP (σ 7 0) n (q + 2) from c109)]; try rfl))
          · try rw [b2i_eq] at c83
            try rw [Decidable.not_not] at c83
            rw [if_neg c83]
            refine V_iconst 0 dX4_takesMorning_86 (by decide) ?_
            exact V_zret hX dX4_takesMorning_87 rfl (by first | exact Or.inl rfl | exact Or.inr rfl) (by rw [b2i_f (fun h => c83 h.2.1)]) (congrArg (cW A tc) (by rw [if_pos hk, if_neg (show ¬ tkP (σ 7 0) n (q + 1) 48 (48 + nI P - 1) from c83)]; try rfl))
      · try rw [b2i_eq] at c30
        try rw [Decidable.not_not] at c30
        rw [if_neg c30]
        have hk : ¬ kdP (σ 7 0) n q := fun h => h.elim c8 (fun h => h.elim c19 c30)
        refine V_iconst 0 dX4_takesMorning_33 (by decide) ?_
        exact V_zret hX dX4_takesMorning_34 rfl (by first | exact Or.inl rfl | exact Or.inr rfl) (by rw [b2i_f (fun h => hk h.1)]) (congrArg (cW A tc) (by rw [if_neg hk]))
end
