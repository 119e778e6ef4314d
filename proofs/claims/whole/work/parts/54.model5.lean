
section
variable {D : va_G} {tc : Tc} {B : Nat → Nat} {τ : Sm} {M P C N : Nat} {ws : va_W}
def ownK (τ : Sm) (M p : Nat) : Int32 := owM τ (nI p) M
set_option maxRecDepth 100000 in
set_option maxHeartbeats 8000000 in
theorem lo_findKeep (hM : τ 6 0 = nI M) (h6 : M ≤ 6) {X : Cx} {p : Nat} (hp : p < 4) (hN3 : N ≤ 3) {own R : Int32} {S : Sm} (hR : (fkS τ M p N own (rcN N own M)).1 = R) (hS : kw2 τ (fkS τ M p N own (rcN N own M)).2.1 (fkS τ M p N own (rcN N own M)).2.2 = S) (hX : Aim X D (some .int) 3 (some (.int R)) (mW B tc S)) : V X D tc cX6_findKeep RX6 10 12 [some (.ref (B 0)), some (.int (nI p)), some (.int (nI N)), some (.int own), some (.int 1), some (.int 0), none, none, none, none] [] (mW B tc τ) := by
  have hrc : (rcN N own M) ≤ 4096 := rcN_le N own hN3 M h6
  have lbS : ∀ c, c < (rcN N own M) → V X D tc cX6_findKeep RX6 10 56 ((fun c => [some (.ref (B 0)), some (.int (nI p)), some (.int (nI N)), some (.int own), some (.int (nI (rcN N own M))), some (.int (fkS τ M p N own c).1), some (.int (nI c)), none, none, none]) (c + 1)) [] ((fun c => mW B tc (kw2 τ (fkS τ M p N own c).2.1 (fkS τ M p N own c).2.2)) (c + 1)) → V X D tc cX6_findKeep RX6 10 56 ((fun c => [some (.ref (B 0)), some (.int (nI p)), some (.int (nI N)), some (.int own), some (.int (nI (rcN N own M))), some (.int (fkS τ M p N own c).1), some (.int (nI c)), none, none, none]) c) [] ((fun c => mW B tc (kw2 τ (fkS τ M p N own c).2.1 (fkS τ M p N own c).2.2)) c) := by
    intro c hc ihlb
    have hc4 : c < 4096 := by omega
    refine V_ild6 dX6_findKeep_56 ?_
    refine V_ild4 dX6_findKeep_58 ?_
    refine V_icmp_ge 201 dX6_findKeep_60 (by decide) (fun c60 => ?_) (fun c60 => ?_)
    · exact absurd c60 (nI_ge hc (by omega))
    · refine V_ild6 dX6_findKeep_63 ?_
      refine V_ist7 dX6_findKeep_65 rfl (by decide) ?_
      refine V_ald0 dX6_findKeep_67 ?_
      refine V_get lf_X6_93 dX6_findKeep_68 mW_obj rfl ?_
      refine V_iconst 1 dX6_findKeep_71 (by decide) ?_
      refine V_isub dX6_findKeep_72 ?_
      refine V_top (y := dkI M 0) (by show τ 6 0 - 1 = nI M - 1 - nI 0; rw [hM]; exact (Int32.sub_zero _).symm) ?_
      refine V_ist8 dX6_findKeep_73 rfl (by decide) ?_
      have lcS : ∀ k, k < M → V X D tc cX6_findKeep RX6 10 75 ((fun k => [some (.ref (B 0)), some (.int (nI p)), some (.int (nI N)), some (.int own), some (.int (nI (rcN N own M))), some (.int (fkS τ M p N own c).1), some (.int (nI c)), some (.int (nI (lfN own N M c k))), some (.int (dkI M k)), none]) (k + 1)) [] ((fun k => mW B tc (kw2 τ (rkM own N M c (fkS τ M p N own c).2.1 k) (fkS τ M p N own c).2.2)) (k + 1)) → V X D tc cX6_findKeep RX6 10 75 ((fun k => [some (.ref (B 0)), some (.int (nI p)), some (.int (nI N)), some (.int own), some (.int (nI (rcN N own M))), some (.int (fkS τ M p N own c).1), some (.int (nI c)), some (.int (nI (lfN own N M c k))), some (.int (dkI M k)), none]) k) [] ((fun k => mW B tc (kw2 τ (rkM own N M c (fkS τ M p N own c).2.1 k) (fkS τ M p N own c).2.2)) k) := by
        intro k hk ihlc
        have hd := dk_in M h6 k hk
        have hle := lfN_le own N M c k
        dsimp only
        rw [hd]
        refine V_ild8 dX6_findKeep_75 ?_
        refine V_if_lt 143 dX6_findKeep_77 (by decide) (fun c77 => ?_) (fun c77 => ?_)
        · exact absurd c77 (nI_pos (by omega))
        · refine V_ild3 dX6_findKeep_80 ?_
          refine V_ild8 dX6_findKeep_81 ?_
          refine V_ishr dX6_findKeep_83 ?_
          refine V_iconst 1 dX6_findKeep_84 (by decide) ?_
          refine V_iand dX6_findKeep_85 ?_
          refine V_iconst 1 dX6_findKeep_86 (by decide) ?_
          refine V_icmp_ne 94 dX6_findKeep_87 (by decide) (fun c87 => ?_) (fun c87 => ?_)
          · refine V_iconst 0 dX6_findKeep_94 (by decide) ?_
            refine V_ist9 dX6_findKeep_95 rfl (by decide) ?_
            refine V_ald0 dX6_findKeep_97 ?_
            refine V_get lf_X6_65 dX6_findKeep_98 mW_obj rfl ?_
            refine V_ild8 dX6_findKeep_101 ?_
            refine V_ild9 dX6_findKeep_103 ?_
            refine V_if_eq 117 dX6_findKeep_105 (by decide) (fun c105 => ?_) (fun c105 => ?_)
            · refine V_ild2 dX6_findKeep_117 ?_
              refine V_top (y := (if bitI own (nI (M - 1 - k)) then nI (lfN own N M c k % (N + 1)) else nI N)) (by first | (rw [if_pos c87, nI_1, pk_rem (by omega) (by omega) (by omega)]; done) | (rw [if_neg c87]; done)) ?_
              refine V_iastk dX6_findKeep_118 mW_a29 ⟨by omega, by decide⟩ (mW_a29s _ _) ?_
              refine V_ild9 dX6_findKeep_119 ?_
              refine V_if_eq 133 dX6_findKeep_121 (by decide) (fun c121 => ?_) (fun c121 => ?_)
              · refine V_ild7 dX6_findKeep_133 ?_
                refine V_top (y := nI (lfN own N M c (k + 1))) (by show _ = nI (if bitI own (nI (M - 1 - k)) then lfN own N M c k / (N + 1) else lfN own N M c k); first | (rw [if_pos c87, nI_1, pk_div (by omega) (by omega) (by omega)]; done) | (rw [if_neg c87]; done)) ?_
                refine V_ist7 dX6_findKeep_135 rfl (by decide) ?_
                refine V_inc8 (dkI M (k + 1)) dX6_findKeep_137 (by rw [← hd]; exact dk_s M h6 k hk) rfl (by decide) ?_
                refine V_goto 75 dX6_findKeep_140 (by decide) ?_
                refine V_dr9 ?_
                refine V_eq rfl rfl ?_ ihlc
                rw [kw2_29]
                rfl
              · first | exact absurd c121 (by decide) | exact absurd (by decide) c121
            · first | exact absurd c105 (by decide) | exact absurd (by decide) c105
          · refine V_iconst 1 dX6_findKeep_90 (by decide) ?_
            refine V_goto 95 dX6_findKeep_91 (by decide) ?_
            refine V_ist9 dX6_findKeep_95 rfl (by decide) ?_
            refine V_ald0 dX6_findKeep_97 ?_
            refine V_get lf_X6_65 dX6_findKeep_98 mW_obj rfl ?_
            refine V_ild8 dX6_findKeep_101 ?_
            refine V_ild9 dX6_findKeep_103 ?_
            refine V_if_eq 117 dX6_findKeep_105 (by decide) (fun c105 => ?_) (fun c105 => ?_)
            · first | exact absurd c105 (by decide) | exact absurd (by decide) c105
            · refine V_ild7 dX6_findKeep_108 ?_
              refine V_ild2 dX6_findKeep_110 ?_
              refine V_iconst 1 dX6_findKeep_111 (by decide) ?_
              refine V_iadd dX6_findKeep_112 ?_
              refine V_irem dX6_findKeep_113 (by rw [nI_1]; exact nI_ne0 (by omega) (by omega)) ?_
              refine V_goto 118 dX6_findKeep_114 (by decide) ?_
              refine V_top (y := (if bitI own (nI (M - 1 - k)) then nI (lfN own N M c k % (N + 1)) else nI N)) (by first | (rw [if_pos c87, nI_1, pk_rem (by omega) (by omega) (by omega)]; done) | (rw [if_neg c87]; done)) ?_
              refine V_iastk dX6_findKeep_118 mW_a29 ⟨by omega, by decide⟩ (mW_a29s _ _) ?_
              refine V_ild9 dX6_findKeep_119 ?_
              refine V_if_eq 133 dX6_findKeep_121 (by decide) (fun c121 => ?_) (fun c121 => ?_)
              · first | exact absurd c121 (by decide) | exact absurd (by decide) c121
              · refine V_ild7 dX6_findKeep_124 ?_
                refine V_ild2 dX6_findKeep_126 ?_
                refine V_iconst 1 dX6_findKeep_127 (by decide) ?_
                refine V_iadd dX6_findKeep_128 ?_
                refine V_idiv dX6_findKeep_129 (by rw [nI_1]; exact nI_ne0 (by omega) (by omega)) ?_
                refine V_goto 135 dX6_findKeep_130 (by decide) ?_
                refine V_top (y := nI (lfN own N M c (k + 1))) (by show _ = nI (if bitI own (nI (M - 1 - k)) then lfN own N M c k / (N + 1) else lfN own N M c k); first | (rw [if_pos c87, nI_1, pk_div (by omega) (by omega) (by omega)]; done) | (rw [if_neg c87]; done)) ?_
                refine V_ist7 dX6_findKeep_135 rfl (by decide) ?_
                refine V_inc8 (dkI M (k + 1)) dX6_findKeep_137 (by rw [← hd]; exact dk_s M h6 k hk) rfl (by decide) ?_
                refine V_goto 75 dX6_findKeep_140 (by decide) ?_
                refine V_dr9 ?_
                refine V_eq rfl rfl ?_ ihlc
                rw [kw2_29]
                rfl
      have lcE : V X D tc cX6_findKeep RX6 10 75 ((fun k => [some (.ref (B 0)), some (.int (nI p)), some (.int (nI N)), some (.int own), some (.int (nI (rcN N own M))), some (.int (fkS τ M p N own c).1), some (.int (nI c)), some (.int (nI (lfN own N M c k))), some (.int (dkI M k)), none]) (M)) [] ((fun k => mW B tc (kw2 τ (rkM own N M c (fkS τ M p N own c).2.1 k) (fkS τ M p N own c).2.2)) (M)) := by
        refine V_ild8 dX6_findKeep_75 ?_
        refine V_if_lt 143 dX6_findKeep_77 (by decide) (fun c77 => ?_) (fun c77 => ?_)
        · refine V_ald0 dX6_findKeep_143 ?_
          refine V_ild1 dX6_findKeep_144 ?_
          refine V_ild3 dX6_findKeep_145 ?_
          refine V_ild2 dX6_findKeep_146 ?_
          refine V_callV lm_X6_210 (mk_joyOfRow (τ := kw2 τ (rkM own N M c (fkS τ M p N own c).2.1 M) (fkS τ M p N own c).2.2) hM h6 p hp hN3 own) dX6_findKeep_147 mW_obj rfl (dep hX (by decide)) rfl (Nat.le_of_ble_eq_true rfl) ?_
          refine V_top (y := jrM τ (rkM own N M c (fkS τ M p N own c).2.1 M) M p own N) (jr_kw N) ?_
          refine V_ist8 dX6_findKeep_150 rfl (by decide) ?_
          refine V_ild8 dX6_findKeep_152 ?_
          refine V_ild5 dX6_findKeep_154 ?_
          refine V_icmp_le 195 dX6_findKeep_156 (by decide) (fun c156 => ?_) (fun c156 => ?_)
          · refine V_inc6 (nI (c + 1)) dX6_findKeep_195 (nI_inc c) rfl (by decide) ?_
            refine V_goto 56 dX6_findKeep_198 (by decide) ?_
            have eN : fkS τ M p N own (c + 1) = ((fkS τ M p N own c).1, rkM own N M c (fkS τ M p N own c).2.1 M, (fkS τ M p N own c).2.2) := if_pos c156
            refine V_dr7 ?_
            refine V_dr8 ?_
            refine V_dr9 ?_
            refine V_eq ?_ rfl ?_ ihlb
            · dsimp only; rw [eN]
            · dsimp only; rw [eN]
          · refine V_ild8 dX6_findKeep_159 ?_
            refine V_ist5 dX6_findKeep_161 rfl (by decide) ?_
            refine V_iconst 0 dX6_findKeep_163 (by decide) ?_
            refine V_ist9 dX6_findKeep_164 rfl (by decide) ?_
            have eN : fkS τ M p N own (c + 1) = (jrM τ (rkM own N M c (fkS τ M p N own c).2.1 M) M p own N, rkM own N M c (fkS τ M p N own c).2.1 M, cpN (rkM own N M c (fkS τ M p N own c).2.1 M) (fkS τ M p N own c).2.2 M) := if_neg c156
            have ldS : ∀ d, d < M → V X D tc cX6_findKeep RX6 10 166 ((fun d => [some (.ref (B 0)), some (.int (nI p)), some (.int (nI N)), some (.int own), some (.int (nI (rcN N own M))), some (.int (jrM τ (rkM own N M c (fkS τ M p N own c).2.1 M) M p own N)), some (.int (nI c)), some (.int (nI (lfN own N M c M))), some (.int (jrM τ (rkM own N M c (fkS τ M p N own c).2.1 M) M p own N)), some (.int (nI d))]) (d + 1)) [] ((fun d => mW B tc (kw2 τ (rkM own N M c (fkS τ M p N own c).2.1 M) (cpN (rkM own N M c (fkS τ M p N own c).2.1 M) (fkS τ M p N own c).2.2 d))) (d + 1)) → V X D tc cX6_findKeep RX6 10 166 ((fun d => [some (.ref (B 0)), some (.int (nI p)), some (.int (nI N)), some (.int own), some (.int (nI (rcN N own M))), some (.int (jrM τ (rkM own N M c (fkS τ M p N own c).2.1 M) M p own N)), some (.int (nI c)), some (.int (nI (lfN own N M c M))), some (.int (jrM τ (rkM own N M c (fkS τ M p N own c).2.1 M) M p own N)), some (.int (nI d))]) d) [] ((fun d => mW B tc (kw2 τ (rkM own N M c (fkS τ M p N own c).2.1 M) (cpN (rkM own N M c (fkS τ M p N own c).2.1 M) (fkS τ M p N own c).2.2 d))) d) := by
              intro d hd ihld
              refine V_ild9 dX6_findKeep_166 ?_
              refine V_ald0 dX6_findKeep_168 ?_
              refine V_get lf_X6_93 dX6_findKeep_169 mW_obj rfl ?_
              refine V_icmp_ge 195 dX6_findKeep_172 (by decide) (fun c172 => ?_) (fun c172 => ?_)
              · exact absurd c172 (ge_no hM hd (by omega))
              · refine V_ald0 dX6_findKeep_175 ?_
                refine V_get lf_X6_68 dX6_findKeep_176 mW_obj rfl ?_
                refine V_ild9 dX6_findKeep_179 ?_
                refine V_ald0 dX6_findKeep_181 ?_
                refine V_get lf_X6_65 dX6_findKeep_182 mW_obj rfl ?_
                refine V_ild9 dX6_findKeep_185 ?_
                refine V_ialdk dX6_findKeep_187 mW_a29 ⟨by omega, by decide⟩ ?_
                refine V_iastk dX6_findKeep_188 mW_a30 ⟨by omega, by decide⟩ (mW_a30s _ _) ?_
                refine V_inc9 (nI (d + 1)) dX6_findKeep_189 (nI_inc d) rfl (by decide) ?_
                refine V_goto 166 dX6_findKeep_192 (by decide) ?_
                refine V_eq rfl rfl ?_ ihld
                rw [kw2_30]
                exact congrArg (fun g => mW B tc (kw2 τ (rkM own N M c (fkS τ M p N own c).2.1 M) g)) (cpN_s _ _ _)
            have ldE : V X D tc cX6_findKeep RX6 10 166 ((fun d => [some (.ref (B 0)), some (.int (nI p)), some (.int (nI N)), some (.int own), some (.int (nI (rcN N own M))), some (.int (jrM τ (rkM own N M c (fkS τ M p N own c).2.1 M) M p own N)), some (.int (nI c)), some (.int (nI (lfN own N M c M))), some (.int (jrM τ (rkM own N M c (fkS τ M p N own c).2.1 M) M p own N)), some (.int (nI d))]) (M)) [] ((fun d => mW B tc (kw2 τ (rkM own N M c (fkS τ M p N own c).2.1 M) (cpN (rkM own N M c (fkS τ M p N own c).2.1 M) (fkS τ M p N own c).2.2 d))) (M)) := by
              refine V_ild9 dX6_findKeep_166 ?_
              refine V_ald0 dX6_findKeep_168 ?_
              refine V_get lf_X6_93 dX6_findKeep_169 mW_obj rfl ?_
              refine V_icmp_ge 195 dX6_findKeep_172 (by decide) (fun c172 => ?_) (fun c172 => ?_)
              · refine V_inc6 (nI (c + 1)) dX6_findKeep_195 (nI_inc c) rfl (by decide) ?_
                refine V_goto 56 dX6_findKeep_198 (by decide) ?_
                refine V_dr7 ?_
                refine V_dr8 ?_
                refine V_dr9 ?_
                refine V_eq ?_ rfl ?_ ihlb
                · dsimp only; rw [eN]
                · dsimp only; rw [eN]
              · exact absurd (ge_yes hM) c172
            have ld := V_for (fun d => [some (.ref (B 0)), some (.int (nI p)), some (.int (nI N)), some (.int own), some (.int (nI (rcN N own M))), some (.int (jrM τ (rkM own N M c (fkS τ M p N own c).2.1 M) M p own N)), some (.int (nI c)), some (.int (nI (lfN own N M c M))), some (.int (jrM τ (rkM own N M c (fkS τ M p N own c).2.1 M) M p own N)), some (.int (nI d))]) (fun d => mW B tc (kw2 τ (rkM own N M c (fkS τ M p N own c).2.1 M) (cpN (rkM own N M c (fkS τ M p N own c).2.1 M) (fkS τ M p N own c).2.2 d))) (M) ldS ldE
            refine V_eq rfl rfl ?_ (ld 0 (Nat.zero_le _))
            rw [cpN_0]
        · exact absurd (dk_e M h6) c77
      have lc := V_for (fun k => [some (.ref (B 0)), some (.int (nI p)), some (.int (nI N)), some (.int own), some (.int (nI (rcN N own M))), some (.int (fkS τ M p N own c).1), some (.int (nI c)), some (.int (nI (lfN own N M c k))), some (.int (dkI M k)), none]) (fun k => mW B tc (kw2 τ (rkM own N M c (fkS τ M p N own c).2.1 k) (fkS τ M p N own c).2.2)) (M) lcS lcE
      exact lc 0 (Nat.zero_le _)
  have lbE : V X D tc cX6_findKeep RX6 10 56 ((fun c => [some (.ref (B 0)), some (.int (nI p)), some (.int (nI N)), some (.int own), some (.int (nI (rcN N own M))), some (.int (fkS τ M p N own c).1), some (.int (nI c)), none, none, none]) ((rcN N own M))) [] ((fun c => mW B tc (kw2 τ (fkS τ M p N own c).2.1 (fkS τ M p N own c).2.2)) ((rcN N own M))) := by
    refine V_ild6 dX6_findKeep_56 ?_
    refine V_ild4 dX6_findKeep_58 ?_
    refine V_icmp_ge 201 dX6_findKeep_60 (by decide) (fun c60 => ?_) (fun c60 => ?_)
    · refine V_ild5 dX6_findKeep_201 ?_
      exact V_iret hX dX6_findKeep_203 rfl (by rw [← hR]) (by rw [← hS])
    · exact absurd (ge_yes rfl) c60
  have lb := V_for (fun c => [some (.ref (B 0)), some (.int (nI p)), some (.int (nI N)), some (.int own), some (.int (nI (rcN N own M))), some (.int (fkS τ M p N own c).1), some (.int (nI c)), none, none, none]) (fun c => mW B tc (kw2 τ (fkS τ M p N own c).2.1 (fkS τ M p N own c).2.2)) ((rcN N own M)) lbS lbE
  have laS : ∀ k, k < M → V X D tc cX6_findKeep RX6 10 12 ((fun k => [some (.ref (B 0)), some (.int (nI p)), some (.int (nI N)), some (.int own), some (.int (nI (rcN N own k))), some (.int (nI k)), none, none, none, none]) (k + 1)) [] ((fun k => mW B tc τ) (k + 1)) → V X D tc cX6_findKeep RX6 10 12 ((fun k => [some (.ref (B 0)), some (.int (nI p)), some (.int (nI N)), some (.int own), some (.int (nI (rcN N own k))), some (.int (nI k)), none, none, none, none]) k) [] ((fun k => mW B tc τ) k) := by
    intro k hk ihla
    refine V_ild5 dX6_findKeep_12 ?_
    refine V_ald0 dX6_findKeep_14 ?_
    refine V_get lf_X6_93 dX6_findKeep_15 mW_obj rfl ?_
    refine V_icmp_ge 49 dX6_findKeep_18 (by decide) (fun c18 => ?_) (fun c18 => ?_)
    · exact absurd c18 (ge_no hM hk (by omega))
    · refine V_ild4 dX6_findKeep_21 ?_
      refine V_ild3 dX6_findKeep_23 ?_
      refine V_ild5 dX6_findKeep_24 ?_
      refine V_ishr dX6_findKeep_26 ?_
      refine V_iconst 1 dX6_findKeep_27 (by decide) ?_
      refine V_iand dX6_findKeep_28 ?_
      refine V_iconst 1 dX6_findKeep_29 (by decide) ?_
      refine V_icmp_ne 39 dX6_findKeep_30 (by decide) (fun c30 => ?_) (fun c30 => ?_)
      · refine V_iconst 1 dX6_findKeep_39 (by decide) ?_
        refine V_imul dX6_findKeep_40 ?_
        refine V_top (y := nI (rcN N own (k + 1))) (by show _ = nI (rcN N own k * (if bitI own (nI k) then N + 1 else 1)); first | (rw [if_pos c30, nI_1, pk_mul]; done) | (rw [if_neg c30, show (1 : Int32) = nI 1 by decide, pk_mul]; done)) ?_
        refine V_ist4 dX6_findKeep_41 rfl (by decide) ?_
        refine V_inc5 (nI (k + 1)) dX6_findKeep_43 (nI_inc k) rfl (by decide) ?_
        refine V_goto 12 dX6_findKeep_46 (by decide) ?_
        exact ihla
      · refine V_ild2 dX6_findKeep_33 ?_
        refine V_iconst 1 dX6_findKeep_34 (by decide) ?_
        refine V_iadd dX6_findKeep_35 ?_
        refine V_goto 40 dX6_findKeep_36 (by decide) ?_
        refine V_imul dX6_findKeep_40 ?_
        refine V_top (y := nI (rcN N own (k + 1))) (by show _ = nI (rcN N own k * (if bitI own (nI k) then N + 1 else 1)); first | (rw [if_pos c30, nI_1, pk_mul]; done) | (rw [if_neg c30, show (1 : Int32) = nI 1 by decide, pk_mul]; done)) ?_
        refine V_ist4 dX6_findKeep_41 rfl (by decide) ?_
        refine V_inc5 (nI (k + 1)) dX6_findKeep_43 (nI_inc k) rfl (by decide) ?_
        refine V_goto 12 dX6_findKeep_46 (by decide) ?_
        exact ihla
  have laE : V X D tc cX6_findKeep RX6 10 12 ((fun k => [some (.ref (B 0)), some (.int (nI p)), some (.int (nI N)), some (.int own), some (.int (nI (rcN N own k))), some (.int (nI k)), none, none, none, none]) (M)) [] ((fun k => mW B tc τ) (M)) := by
    refine V_ild5 dX6_findKeep_12 ?_
    refine V_ald0 dX6_findKeep_14 ?_
    refine V_get lf_X6_93 dX6_findKeep_15 mW_obj rfl ?_
    refine V_icmp_ge 49 dX6_findKeep_18 (by decide) (fun c18 => ?_) (fun c18 => ?_)
    · refine V_bipush (-9) dX6_findKeep_49 (by decide) ?_
      refine V_ist5 dX6_findKeep_51 rfl (by decide) ?_
      refine V_iconst 0 dX6_findKeep_53 (by decide) ?_
      refine V_ist6 dX6_findKeep_54 rfl (by decide) ?_
      refine V_eq rfl rfl ?_ (lb 0 (Nat.zero_le _))
      exact congrArg (mW B tc) (kw2_self τ).symm
    · exact absurd (ge_yes hM) c18
  have la := V_for (fun k => [some (.ref (B 0)), some (.int (nI p)), some (.int (nI N)), some (.int own), some (.int (nI (rcN N own k))), some (.int (nI k)), none, none, none, none]) (fun k => mW B tc τ) (M) laS laE
  exact la 0 (Nat.zero_le _)
set_option maxRecDepth 100000 in
set_option maxHeartbeats 4000000 in
theorem mk_findKeep (hM : τ 6 0 = nI M) (h6 : M ≤ 6) (p : Nat) (hp : p < 4) (hN3 : N ≤ 3) : Ok 3 yX6_findKeep cX6_findKeep 10 (some .int) D tc [.ref (B 0), .int (nI p), .int (nI N)] (mW B tc τ) (some (.int (kkM τ M p N).1)) (mW B tc (kw2 τ (kkM τ M p N).2.1 (kkM τ M p N).2.2)) := by
  refine Ok_of RX6 rfl (by decide) [some (.ref (B 0)), some (.int (nI p)), some (.int (nI N)), none, none, none, none, none, none, none] rfl (Nat.le_of_ble_eq_true rfl) ?_
  intro X hX
  refine V_ald0 dX6_findKeep_0 ?_
  refine V_ild1 dX6_findKeep_1 ?_
  refine V_callV lm_X6_162 (mk_ownOf hM h6 _) dX6_findKeep_2 mW_obj rfl (dep hX (by decide)) rfl (Nat.le_of_ble_eq_true rfl) ?_
  refine V_ist3 dX6_findKeep_5 rfl (by decide) ?_
  refine V_iconst 1 dX6_findKeep_6 (by decide) ?_
  refine V_ist4 dX6_findKeep_7 rfl (by decide) ?_
  refine V_iconst 0 dX6_findKeep_9 (by decide) ?_
  refine V_ist5 dX6_findKeep_10 rfl (by decide) ?_
  exact lo_findKeep hM h6 hp hN3 rfl rfl hX
set_option maxRecDepth 100000 in
set_option maxHeartbeats 4000000 in
theorem mk_keep (hP : τ 5 0 = nI P) (h4 : P ≤ 4) (hM : τ 6 0 = nI M) (h6 : M ≤ 6) (p n k : Int32) : Ok 4 yX6_keep cX6_keep 5 (some .int) D tc [.ref (B 0), .int p, .int n, .int k] (mW B tc τ) (some (.int (Rm_keep τ M p n k))) (mW B tc (Sm_keep τ M p n k)) := by
  refine Ok_of RX6 rfl (by decide) [some (.ref (B 0)), some (.int p), some (.int n), some (.int k), none] rfl (Nat.le_of_ble_eq_true rfl) ?_
  intro X hX
  refine V_ald0 dX6_keep_0 ?_
  refine V_ild1 dX6_keep_1 ?_
  refine V_callV lm_X6_159 (mk_isPerson _) dX6_keep_2 mW_obj rfl (dep hX (by decide)) rfl (Nat.le_of_ble_eq_true rfl) ?_
  refine V_if_ne 10 dX6_keep_5 (by decide) (fun c5 => ?_) (fun c5 => ?_)
  · try rw [b2i_ne] at c5
    try rw [Decidable.not_not] at c5
    obtain ⟨j, hj, ej⟩ := isP_of hP (by omega) c5
    subst ej
    have hcj : (nI j).toNatClampNeg = j := nI_clamp (by omega)
    refine V_ild2 dX6_keep_10 ?_
    refine V_iconst 1 dX6_keep_11 (by decide) ?_
    refine V_iconst 3 dX6_keep_12 (by decide) ?_
    refine V_callS ls_X6_86 (mk_within _ _ _) dX6_keep_13 (dep hX (by decide)) rfl (Nat.le_of_ble_eq_true rfl) ?_
    refine V_if_eq 28 dX6_keep_16 (by decide) (fun c16 => ?_) (fun c16 => ?_)
    · try rw [b2i_eq] at c16
      try rw [Decidable.not_not] at c16
      refine V_bipush (-2) dX6_keep_28 (by decide) ?_
      exact V_iret hX dX6_keep_30 rfl (by (try first | replace c5 := eq_false c5 | replace c5 := eq_true c5); (try first | replace c16 := eq_false c16 | replace c16 := eq_true c16); simp only [Rm_keep, c5, c16, not_true_eq_false, not_false_eq_true, and_self, true_and, and_true, false_and, and_false, true_or, or_true, false_or, or_false, or_self, ↓reduceIte]) (congrArg (mW B tc) (by (try first | replace c5 := eq_false c5 | replace c5 := eq_true c5); (try first | replace c16 := eq_false c16 | replace c16 := eq_true c16); simp only [Sm_keep, c5, c16, not_true_eq_false, not_false_eq_true, and_self, true_and, and_true, false_and, and_false, true_or, or_true, false_or, or_false, or_self, ↓reduceIte]))
    · try rw [b2i_ne] at c16
      try rw [Decidable.not_not] at c16
      obtain ⟨N, hN1, hN3, eN⟩ := n13 c16.1 c16.2
      subst eN
      have hcN : (nI N).toNatClampNeg = N := nI_clamp (by omega)
      refine V_ild3 dX6_keep_19 ?_
      refine V_iconst (-1) dX6_keep_20 (by decide) ?_
      refine V_iconst 5 dX6_keep_21 (by decide) ?_
      refine V_callS ls_X6_86 (mk_within _ _ _) dX6_keep_22 (dep hX (by decide)) rfl (Nat.le_of_ble_eq_true rfl) ?_
      refine V_if_ne 31 dX6_keep_25 (by decide) (fun c25 => ?_) (fun c25 => ?_)
      · try rw [b2i_ne] at c25
        try rw [Decidable.not_not] at c25
        refine V_ald0 dX6_keep_31 ?_
        refine V_ild1 dX6_keep_32 ?_
        refine V_ild2 dX6_keep_33 ?_
        refine V_callV lm_X6_213 (mk_findKeep hM h6 j (by omega) hN3) dX6_keep_34 mW_obj rfl (dep hX (by decide)) rfl (Nat.le_of_ble_eq_true rfl) ?_
        refine V_ist4 dX6_keep_37 rfl (by decide) ?_
        refine V_ild3 dX6_keep_39 ?_
        refine V_iconst (-1) dX6_keep_40 (by decide) ?_
        refine V_icmp_ne 47 dX6_keep_41 (by decide) (fun c41 => ?_) (fun c41 => ?_)
        · refine V_ald0 dX6_keep_47 ?_
          refine V_ild3 dX6_keep_48 ?_
          refine V_callV lm_X6_156 (mk_isMorning _) dX6_keep_49 mW_obj rfl (dep hX (by decide)) rfl (Nat.le_of_ble_eq_true rfl) ?_
          refine V_if_eq 74 dX6_keep_52 (by decide) (fun c52 => ?_) (fun c52 => ?_)
          · try rw [b2i_eq] at c52
            try rw [Decidable.not_not] at c52
            have h76 : (if isP (τ 6 0) k ∧ ¬ nI N ≤ (kkM τ M j N).2.2 k.toNatClampNeg then (kkM τ M j N).2.2 k.toNatClampNeg else -9) = -9 := if_neg (fun h => c52 h.1)
            refine V_bipush (-9) dX6_keep_74 (by decide) ?_
            exact V_iret hX dX6_keep_76 rfl (by rw [Rm_keep, if_pos c5, if_pos ⟨c16, c25⟩, if_neg c41, hcj, hcN]; rw [h76]; try rfl) (congrArg (mW B tc) (by rw [Sm_keep, if_pos c5, if_pos ⟨c16, c25⟩, hcj, hcN]))
          · try rw [b2i_ne] at c52
            try rw [Decidable.not_not] at c52
            obtain ⟨z, hz, ez⟩ := isP_of (P := M) hM (by omega) c52
            have hcz : k.toNatClampNeg = z := by rw [ez]; exact nI_clamp (by omega)
            refine V_ald0 dX6_keep_55 ?_
            refine V_get lf_X6_68 dX6_keep_56 mW_obj rfl ?_
            refine V_ild3 dX6_keep_59 ?_
            refine V_top (y := nI z) ez ?_
            refine V_ialdk dX6_keep_60 mW_a30 ⟨by omega, by decide⟩ ?_
            refine V_ild2 dX6_keep_61 ?_
            refine V_icmp_ge 74 dX6_keep_62 (by decide) (fun c62 => ?_) (fun c62 => ?_)
            · have h76 : (if isP (τ 6 0) k ∧ ¬ nI N ≤ (kkM τ M j N).2.2 k.toNatClampNeg then (kkM τ M j N).2.2 k.toNatClampNeg else -9) = -9 := if_neg (fun h => h.2 (by rw [hcz]; exact c62))
              refine V_bipush (-9) dX6_keep_74 (by decide) ?_
              exact V_iret hX dX6_keep_76 rfl (by rw [Rm_keep, if_pos c5, if_pos ⟨c16, c25⟩, if_neg c41, hcj, hcN]; rw [h76]; try rfl) (congrArg (mW B tc) (by rw [Sm_keep, if_pos c5, if_pos ⟨c16, c25⟩, hcj, hcN]))
            · have h76 : (if isP (τ 6 0) k ∧ ¬ nI N ≤ (kkM τ M j N).2.2 k.toNatClampNeg then (kkM τ M j N).2.2 k.toNatClampNeg else -9) = (kkM τ M j N).2.2 z := (by rw [if_pos (show isP (τ 6 0) k ∧ ¬ nI N ≤ (kkM τ M j N).2.2 k.toNatClampNeg from ⟨c52, by rw [hcz]; exact c62⟩), hcz])
              refine V_ald0 dX6_keep_65 ?_
              refine V_get lf_X6_68 dX6_keep_66 mW_obj rfl ?_
              refine V_ild3 dX6_keep_69 ?_
              refine V_top (y := nI z) ez ?_
              refine V_ialdk dX6_keep_70 mW_a30 ⟨by omega, by decide⟩ ?_
              refine V_goto 76 dX6_keep_71 (by decide) ?_
              exact V_iret hX dX6_keep_76 rfl (by rw [Rm_keep, if_pos c5, if_pos ⟨c16, c25⟩, if_neg c41, hcj, hcN]; rw [h76]; try rfl) (congrArg (mW B tc) (by rw [Sm_keep, if_pos c5, if_pos ⟨c16, c25⟩, hcj, hcN]))
        · refine V_ild4 dX6_keep_44 ?_
          exact V_iret hX dX6_keep_46 rfl (by (try first | replace c5 := eq_false c5 | replace c5 := eq_true c5); (try first | replace c16 := eq_false c16 | replace c16 := eq_true c16); (try first | replace c25 := eq_false c25 | replace c25 := eq_true c25); (try first | replace c41 := eq_false c41 | replace c41 := eq_true c41); simp only [Rm_keep, hcj, hcN, c5, c16, c25, c41, not_true_eq_false, not_false_eq_true, and_self, true_and, and_true, false_and, and_false, true_or, or_true, false_or, or_false, or_self, ↓reduceIte]) (congrArg (mW B tc) (by (try first | replace c5 := eq_false c5 | replace c5 := eq_true c5); (try first | replace c16 := eq_false c16 | replace c16 := eq_true c16); (try first | replace c25 := eq_false c25 | replace c25 := eq_true c25); (try first | replace c41 := eq_false c41 | replace c41 := eq_true c41); simp only [Sm_keep, hcj, hcN, c5, c16, c25, c41, not_true_eq_false, not_false_eq_true, and_self, true_and, and_true, false_and, and_false, true_or, or_true, false_or, or_false, or_self, ↓reduceIte]))
      · try rw [b2i_eq] at c25
        try rw [Decidable.not_not] at c25
        refine V_bipush (-2) dX6_keep_28 (by decide) ?_
        exact V_iret hX dX6_keep_30 rfl (by (try first | replace c5 := eq_false c5 | replace c5 := eq_true c5); (try first | replace c16 := eq_false c16 | replace c16 := eq_true c16); (try first | replace c25 := eq_false c25 | replace c25 := eq_true c25); simp only [Rm_keep, c5, c16, c25, not_true_eq_false, not_false_eq_true, and_self, true_and, and_true, false_and, and_false, true_or, or_true, false_or, or_false, or_self, ↓reduceIte]) (congrArg (mW B tc) (by (try first | replace c5 := eq_false c5 | replace c5 := eq_true c5); (try first | replace c16 := eq_false c16 | replace c16 := eq_true c16); (try first | replace c25 := eq_false c25 | replace c25 := eq_true c25); simp only [Sm_keep, c5, c16, c25, not_true_eq_false, not_false_eq_true, and_self, true_and, and_true, false_and, and_false, true_or, or_true, false_or, or_false, or_self, ↓reduceIte]))
  · try rw [b2i_eq] at c5
    try rw [Decidable.not_not] at c5
    refine V_iconst (-1) dX6_keep_8 (by decide) ?_
    exact V_iret hX dX6_keep_9 rfl (by (try first | replace c5 := eq_false c5 | replace c5 := eq_true c5); simp only [Rm_keep, c5, not_true_eq_false, not_false_eq_true, and_self, true_and, and_true, false_and, and_false, true_or, or_true, false_or, or_false, or_self, ↓reduceIte]) (congrArg (mW B tc) (by (try first | replace c5 := eq_false c5 | replace c5 := eq_true c5); simp only [Sm_keep, c5, not_true_eq_false, not_false_eq_true, and_self, true_and, and_true, false_and, and_false, true_or, or_true, false_or, or_false, or_self, ↓reduceIte]))
end
