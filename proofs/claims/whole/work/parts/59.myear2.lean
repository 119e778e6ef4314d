section
variable {D : va_G} {tc : Tc} {B : Nat → Nat} {τ τ0 : Sm} {M P s n q p m : Nat} {X : Cx}
set_option maxRecDepth 100000 in
set_option maxHeartbeats 4000000 in
theorem mk_tellYear (hP : τ 5 0 = nI P) (h4 : P ≤ 4) (hM : τ 6 0 = nI M) (h6 : M ≤ 6) (w : Int32) : Ok 1 yX6_tellYear cX6_tellYear 5 (some .int) D tc [.ref (B 0), .int w] (mW B tc τ) (some (.int (tyM τ P M w))) (mW B tc τ) := by
  refine Ok_of RX6 rfl (by decide) [some (.ref (B 0)), some (.int w), none, none, none] rfl (Nat.le_of_ble_eq_true rfl) ?_
  intro X hX
  refine V_ild1 dX6_tellYear_0 ?_
  refine V_bipush 30 dX6_tellYear_1 (by decide) ?_
  refine V_icmp_lt 32 dX6_tellYear_3 (by decide) (fun c3 => ?_) (fun c3 => ?_)
  · refine V_ild1 dX6_tellYear_32 ?_
    refine V_bipush 20 dX6_tellYear_33 (by decide) ?_
    refine V_icmp_lt 74 dX6_tellYear_35 (by decide) (fun c35 => ?_) (fun c35 => ?_)
    · refine V_ild1 dX6_tellYear_74 ?_
      refine V_bipush 10 dX6_tellYear_75 (by decide) ?_
      refine V_icmp_lt 106 dX6_tellYear_77 (by decide) (fun c77 => ?_) (fun c77 => ?_)
      · refine V_ild1 dX6_tellYear_106 ?_
        refine V_if_ne 115 dX6_tellYear_107 (by decide) (fun c107 => ?_) (fun c107 => ?_)
        · refine V_iconst 0 dX6_tellYear_115 (by decide) ?_
          refine V_ist2 dX6_tellYear_116 rfl (by decide) ?_
          refine V_iconst 0 dX6_tellYear_117 (by decide) ?_
          refine V_ist3 dX6_tellYear_118 rfl (by decide) ?_
          have k30 := c3
          have k20 := c35
          have k10 := c77
          have k0 := c107
          have lqS : ∀ k, k < M → V X D tc cX6_tellYear RX6 5 154 ((fun k => [some (.ref (B 0)), some (.int w), some (.int (jdM τ P)), some (.int (opM τ k)), some (.int (nI k))]) (k + 1)) [] ((fun k => mW B tc τ) (k + 1)) → V X D tc cX6_tellYear RX6 5 154 ((fun k => [some (.ref (B 0)), some (.int w), some (.int (jdM τ P)), some (.int (opM τ k)), some (.int (nI k))]) k) [] ((fun k => mW B tc τ) k) := by
            intro k hk ihlq
            refine V_ild4 dX6_tellYear_154 ?_
            refine V_ald0 dX6_tellYear_156 ?_
            refine V_get lf_X6_93 dX6_tellYear_157 mW_obj rfl ?_
            refine V_icmp_ge 190 dX6_tellYear_160 (by decide) (fun c160 => ?_) (fun c160 => ?_)
            · exact absurd c160 (ge_no hM hk (by omega))
            · refine V_ild3 dX6_tellYear_163 ?_
              refine V_ald0 dX6_tellYear_164 ?_
              refine V_get lf_X6_41 dX6_tellYear_165 mW_obj rfl ?_
              refine V_ild4 dX6_tellYear_168 ?_
              refine V_zaldk dX6_tellYear_170 mW_a16 ⟨by omega, by decide⟩ ?_
              refine V_if_eq 181 dX6_tellYear_171 (by decide) (fun c171 => ?_) (fun c171 => ?_)
              · refine V_iconst 0 dX6_tellYear_181 (by decide) ?_
                refine V_top (y := if τ 16 k = 0 then 0 else oneI k) (by first | exact (if_pos c171).symm | exact (if_neg c171).symm) ?_
                refine V_ior dX6_tellYear_182 ?_
                refine V_ist3 dX6_tellYear_183 rfl (by decide) ?_
                refine V_inc4 (nI (k + 1)) dX6_tellYear_184 (nI_inc k) rfl (by decide) ?_
                refine V_goto 154 dX6_tellYear_187 (by decide) ?_
                exact ihlq
              · refine V_iconst 1 dX6_tellYear_174 (by decide) ?_
                refine V_ild4 dX6_tellYear_175 ?_
                refine V_ishl dX6_tellYear_177 ?_
                refine V_goto 182 dX6_tellYear_178 (by decide) ?_
                refine V_top (y := if τ 16 k = 0 then 0 else oneI k) (by first | exact (if_pos c171).symm | exact (if_neg c171).symm) ?_
                refine V_ior dX6_tellYear_182 ?_
                refine V_ist3 dX6_tellYear_183 rfl (by decide) ?_
                refine V_inc4 (nI (k + 1)) dX6_tellYear_184 (nI_inc k) rfl (by decide) ?_
                refine V_goto 154 dX6_tellYear_187 (by decide) ?_
                exact ihlq
          have lqE : V X D tc cX6_tellYear RX6 5 154 ((fun k => [some (.ref (B 0)), some (.int w), some (.int (jdM τ P)), some (.int (opM τ k)), some (.int (nI k))]) (M)) [] ((fun k => mW B tc τ) (M)) := by
            refine V_ild4 dX6_tellYear_154 ?_
            refine V_ald0 dX6_tellYear_156 ?_
            refine V_get lf_X6_93 dX6_tellYear_157 mW_obj rfl ?_
            refine V_icmp_ge 190 dX6_tellYear_160 (by decide) (fun c160 => ?_) (fun c160 => ?_)
            · refine V_ild1 dX6_tellYear_190 ?_
              refine V_iconst 2 dX6_tellYear_191 (by decide) ?_
              refine V_icmp_ne 199 dX6_tellYear_192 (by decide) (fun c192 => ?_) (fun c192 => ?_)
              · have c2 : ¬ w = 2 := c192
                refine V_ild2 dX6_tellYear_199 ?_
                exact V_iret hX dX6_tellYear_200 rfl (by rw [tyM, if_pos k30, if_pos k20, if_pos k10, if_neg k0]; first | rw [if_neg c192] | rw [if_pos c192]) rfl
              · have c2 : w = 2 := c192
                refine V_ild3 dX6_tellYear_195 ?_
                refine V_goto 200 dX6_tellYear_196 (by decide) ?_
                exact V_iret hX dX6_tellYear_200 rfl (by rw [tyM, if_pos k30, if_pos k20, if_pos k10, if_neg k0]; first | rw [if_neg c192] | rw [if_pos c192]) rfl
            · exact absurd (ge_yes hM) c160
          have lq := V_for (fun k => [some (.ref (B 0)), some (.int w), some (.int (jdM τ P)), some (.int (opM τ k)), some (.int (nI k))]) (fun k => mW B tc τ) (M) lqS lqE
          have lpS : ∀ k, k < P → V X D tc cX6_tellYear RX6 5 119 ((fun k => [some (.ref (B 0)), some (.int w), some (.int (jdM τ k)), some (.int (nI k)), none]) (k + 1)) [] ((fun k => mW B tc τ) (k + 1)) → V X D tc cX6_tellYear RX6 5 119 ((fun k => [some (.ref (B 0)), some (.int w), some (.int (jdM τ k)), some (.int (nI k)), none]) k) [] ((fun k => mW B tc τ) k) := by
            intro k hk ihlp
            refine V_ild3 dX6_tellYear_119 ?_
            refine V_ald0 dX6_tellYear_120 ?_
            refine V_get lf_X6_90 dX6_tellYear_121 mW_obj rfl ?_
            refine V_icmp_ge 149 dX6_tellYear_124 (by decide) (fun c124 => ?_) (fun c124 => ?_)
            · exact absurd c124 (ge_no hP hk (by omega))
            · refine V_ild2 dX6_tellYear_127 ?_
              refine V_ald0 dX6_tellYear_128 ?_
              refine V_get lf_X6_22 dX6_tellYear_129 mW_obj rfl ?_
              refine V_ild3 dX6_tellYear_132 ?_
              refine V_ialdk dX6_tellYear_133 mW_a10 ⟨by omega, by decide⟩ ?_
              refine V_ald0 dX6_tellYear_134 ?_
              refine V_get lf_X6_53 dX6_tellYear_135 mW_obj rfl ?_
              refine V_ild3 dX6_tellYear_138 ?_
              refine V_ialdk dX6_tellYear_139 mW_a25 ⟨by omega, by decide⟩ ?_
              refine V_isub dX6_tellYear_140 ?_
              refine V_iadd dX6_tellYear_141 ?_
              refine V_ist2 dX6_tellYear_142 rfl (by decide) ?_
              refine V_inc3 (nI (k + 1)) dX6_tellYear_143 (nI_inc k) rfl (by decide) ?_
              refine V_goto 119 dX6_tellYear_146 (by decide) ?_
              exact ihlp
          have lpE : V X D tc cX6_tellYear RX6 5 119 ((fun k => [some (.ref (B 0)), some (.int w), some (.int (jdM τ k)), some (.int (nI k)), none]) (P)) [] ((fun k => mW B tc τ) (P)) := by
            refine V_ild3 dX6_tellYear_119 ?_
            refine V_ald0 dX6_tellYear_120 ?_
            refine V_get lf_X6_90 dX6_tellYear_121 mW_obj rfl ?_
            refine V_icmp_ge 149 dX6_tellYear_124 (by decide) (fun c124 => ?_) (fun c124 => ?_)
            · refine V_iconst 0 dX6_tellYear_149 (by decide) ?_
              refine V_ist3 dX6_tellYear_150 rfl (by decide) ?_
              refine V_iconst 0 dX6_tellYear_151 (by decide) ?_
              refine V_ist4 dX6_tellYear_152 rfl (by decide) ?_
              exact lq 0 (Nat.zero_le _)
            · exact absurd (ge_yes hP) c124
          have lp := V_for (fun k => [some (.ref (B 0)), some (.int w), some (.int (jdM τ k)), some (.int (nI k)), none]) (fun k => mW B tc τ) (P) lpS lpE
          exact lp 0 (Nat.zero_le _)
        · refine V_ald0 dX6_tellYear_110 ?_
          refine V_get lf_X6_129 dX6_tellYear_111 mW_obj rfl ?_
          exact V_iret hX dX6_tellYear_114 rfl (by rw [tyM, if_pos c3, if_pos c35, if_pos c77, if_pos c107]) rfl
      · refine V_ald0 dX6_tellYear_80 ?_
        refine V_ild1 dX6_tellYear_81 ?_
        refine V_bipush 10 dX6_tellYear_82 (by decide) ?_
        refine V_isub dX6_tellYear_84 ?_
        refine V_callV lm_X6_159 (mk_isPerson _) dX6_tellYear_85 mW_obj rfl (dep hX (by decide)) rfl (Nat.le_of_ble_eq_true rfl) ?_
        refine V_if_eq 103 dX6_tellYear_88 (by decide) (fun c88 => ?_) (fun c88 => ?_)
        · try rw [b2i_eq] at c88
          try rw [Decidable.not_not] at c88
          have h88 : (if isP (τ 5 0) (w - 10) then τ 9 (w - 10).toNatClampNeg else -9) = -9 := if_neg c88
          refine V_bipush (-9) dX6_tellYear_103 (by decide) ?_
          exact V_iret hX dX6_tellYear_105 rfl (by rw [tyM, if_pos c3, if_pos c35, if_neg c77]; rw [h88]) rfl
        · try rw [b2i_ne] at c88
          try rw [Decidable.not_not] at c88
          obtain ⟨j, hj, ej⟩ := isP_of hP (by omega) c88
          have hcj : (w - 10).toNatClampNeg = j := by rw [ej]; exact nI_clamp (by omega)
          have h88 : (if isP (τ 5 0) (w - 10) then τ 9 (w - 10).toNatClampNeg else -9) = τ 9 j := by rw [if_pos c88, hcj]
          refine V_ald0 dX6_tellYear_91 ?_
          refine V_get lf_X6_19 dX6_tellYear_92 mW_obj rfl ?_
          refine V_ild1 dX6_tellYear_95 ?_
          refine V_bipush 10 dX6_tellYear_96 (by decide) ?_
          refine V_isub dX6_tellYear_98 ?_
          refine V_top (y := nI j) ej ?_
          refine V_ialdk dX6_tellYear_99 mW_a9 ⟨by omega, by decide⟩ ?_
          refine V_goto 105 dX6_tellYear_100 (by decide) ?_
          exact V_iret hX dX6_tellYear_105 rfl (by rw [tyM, if_pos c3, if_pos c35, if_neg c77]; rw [h88]) rfl
    · refine V_ald0 dX6_tellYear_38 ?_
      refine V_ild1 dX6_tellYear_39 ?_
      refine V_bipush 20 dX6_tellYear_40 (by decide) ?_
      refine V_isub dX6_tellYear_42 ?_
      refine V_callV lm_X6_159 (mk_isPerson _) dX6_tellYear_43 mW_obj rfl (dep hX (by decide)) rfl (Nat.le_of_ble_eq_true rfl) ?_
      refine V_if_eq 71 dX6_tellYear_46 (by decide) (fun c46 => ?_) (fun c46 => ?_)
      · try rw [b2i_eq] at c46
        try rw [Decidable.not_not] at c46
        have h46 : (if isP (τ 5 0) (w - 20) then τ 10 (w - 20).toNatClampNeg - τ 25 (w - 20).toNatClampNeg else -9) = -9 := if_neg c46
        refine V_bipush (-9) dX6_tellYear_71 (by decide) ?_
        exact V_iret hX dX6_tellYear_73 rfl (by rw [tyM, if_pos c3, if_neg c35]; rw [h46]) rfl
      · try rw [b2i_ne] at c46
        try rw [Decidable.not_not] at c46
        obtain ⟨j, hj, ej⟩ := isP_of hP (by omega) c46
        have hcj : (w - 20).toNatClampNeg = j := by rw [ej]; exact nI_clamp (by omega)
        have h46 : (if isP (τ 5 0) (w - 20) then τ 10 (w - 20).toNatClampNeg - τ 25 (w - 20).toNatClampNeg else -9) = τ 10 j - τ 25 j := by rw [if_pos c46, hcj]
        refine V_ald0 dX6_tellYear_49 ?_
        refine V_get lf_X6_22 dX6_tellYear_50 mW_obj rfl ?_
        refine V_ild1 dX6_tellYear_53 ?_
        refine V_bipush 20 dX6_tellYear_54 (by decide) ?_
        refine V_isub dX6_tellYear_56 ?_
        refine V_top (y := nI j) ej ?_
        refine V_ialdk dX6_tellYear_57 mW_a10 ⟨by omega, by decide⟩ ?_
        refine V_ald0 dX6_tellYear_58 ?_
        refine V_get lf_X6_53 dX6_tellYear_59 mW_obj rfl ?_
        refine V_ild1 dX6_tellYear_62 ?_
        refine V_bipush 20 dX6_tellYear_63 (by decide) ?_
        refine V_isub dX6_tellYear_65 ?_
        refine V_top (y := nI j) ej ?_
        refine V_ialdk dX6_tellYear_66 mW_a25 ⟨by omega, by decide⟩ ?_
        refine V_isub dX6_tellYear_67 ?_
        refine V_goto 73 dX6_tellYear_68 (by decide) ?_
        exact V_iret hX dX6_tellYear_73 rfl (by rw [tyM, if_pos c3, if_neg c35]; rw [h46]) rfl
  · refine V_ald0 dX6_tellYear_6 ?_
    refine V_ild1 dX6_tellYear_7 ?_
    refine V_bipush 30 dX6_tellYear_8 (by decide) ?_
    refine V_isub dX6_tellYear_10 ?_
    refine V_callV lm_X6_156 (mk_isMorning _) dX6_tellYear_11 mW_obj rfl (dep hX (by decide)) rfl (Nat.le_of_ble_eq_true rfl) ?_
    refine V_if_eq 29 dX6_tellYear_14 (by decide) (fun c14 => ?_) (fun c14 => ?_)
    · try rw [b2i_eq] at c14
      try rw [Decidable.not_not] at c14
      have h14 : (if isP (τ 6 0) (w - 30) then τ 13 (w - 30).toNatClampNeg else -9) = -9 := if_neg c14
      refine V_bipush (-9) dX6_tellYear_29 (by decide) ?_
      exact V_iret hX dX6_tellYear_31 rfl (by rw [tyM, if_neg c3]; rw [h14]) rfl
    · try rw [b2i_ne] at c14
      try rw [Decidable.not_not] at c14
      obtain ⟨j, hj, ej⟩ := isP_of hM (by omega) c14
      have hcj : (w - 30).toNatClampNeg = j := by rw [ej]; exact nI_clamp (by omega)
      have h14 : (if isP (τ 6 0) (w - 30) then τ 13 (w - 30).toNatClampNeg else -9) = τ 13 j := by rw [if_pos c14, hcj]
      refine V_ald0 dX6_tellYear_17 ?_
      refine V_get lf_X6_32 dX6_tellYear_18 mW_obj rfl ?_
      refine V_ild1 dX6_tellYear_21 ?_
      refine V_bipush 30 dX6_tellYear_22 (by decide) ?_
      refine V_isub dX6_tellYear_24 ?_
      refine V_top (y := nI j) ej ?_
      refine V_ialdk dX6_tellYear_25 mW_a13 ⟨by omega, by decide⟩ ?_
      refine V_goto 31 dX6_tellYear_26 (by decide) ?_
      exact V_iret hX dX6_tellYear_31 rfl (by rw [tyM, if_neg c3]; rw [h14]) rfl
end
