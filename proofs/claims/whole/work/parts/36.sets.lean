def ushI (x : Int32) (k : Int32) : Int32 := (x.toUInt32 >>> (k.toUInt32 &&& Int32.toUInt32 31)).toInt32
def bc1 (x : Int32) : Int32 := x - (ushI x 1 &&& 1431655765)
def bc2 (x : Int32) : Int32 := (x &&& 858993459) + (ushI x 2 &&& 858993459)
def bc3 (x : Int32) : Int32 := (x + ushI x 4) &&& 252645135
def bcI (x : Int32) : Int32 := let a := bc3 (bc2 (bc1 x)); let b := a + ushI a 8; (b + ushI b 16) &&& 63
section
variable {D : va_G} {tc : Tc} {A : Nat → Nat} {σ : St} {M P C : Nat} {ws : va_W}
set_option maxRecDepth 100000 in
set_option maxHeartbeats 4000000 in
theorem ok_bitCount (x : Int32) : Ok 0 yJ6_bitCount_0f7a4 cJ6_bitCount_0f7a4 1 (some .int) D tc [.int x] ws (some (.int (bcI x))) ws := by
  refine Ok_of RJ6 rfl (by decide) [some (.int x)] rfl (Nat.le_of_ble_eq_true rfl) ?_
  intro X hX
  refine V_ild0 dJ6_bitCount_0f7a4_0 ?_
  refine V_ild0 dJ6_bitCount_0f7a4_1 ?_
  refine V_iconst 1 dJ6_bitCount_0f7a4_2 (by decide) ?_
  refine V_iushr dJ6_bitCount_0f7a4_3 ?_
  refine V_ldcw _ wC_J6_265 dJ6_bitCount_0f7a4_4 ?_
  refine V_iand dJ6_bitCount_0f7a4_7 ?_
  refine V_isub dJ6_bitCount_0f7a4_8 ?_
  refine V_ist0 dJ6_bitCount_0f7a4_9 rfl (by decide) ?_
  refine V_ild0 dJ6_bitCount_0f7a4_10 ?_
  refine V_ldcw _ wC_J6_266 dJ6_bitCount_0f7a4_11 ?_
  refine V_iand dJ6_bitCount_0f7a4_14 ?_
  refine V_ild0 dJ6_bitCount_0f7a4_15 ?_
  refine V_iconst 2 dJ6_bitCount_0f7a4_16 (by decide) ?_
  refine V_iushr dJ6_bitCount_0f7a4_17 ?_
  refine V_ldcw _ wC_J6_266 dJ6_bitCount_0f7a4_18 ?_
  refine V_iand dJ6_bitCount_0f7a4_21 ?_
  refine V_iadd dJ6_bitCount_0f7a4_22 ?_
  refine V_ist0 dJ6_bitCount_0f7a4_23 rfl (by decide) ?_
  refine V_ild0 dJ6_bitCount_0f7a4_24 ?_
  refine V_ild0 dJ6_bitCount_0f7a4_25 ?_
  refine V_iconst 4 dJ6_bitCount_0f7a4_26 (by decide) ?_
  refine V_iushr dJ6_bitCount_0f7a4_27 ?_
  refine V_iadd dJ6_bitCount_0f7a4_28 ?_
  refine V_ldcw _ wC_J6_267 dJ6_bitCount_0f7a4_29 ?_
  refine V_iand dJ6_bitCount_0f7a4_32 ?_
  refine V_ist0 dJ6_bitCount_0f7a4_33 rfl (by decide) ?_
  refine V_ild0 dJ6_bitCount_0f7a4_34 ?_
  refine V_ild0 dJ6_bitCount_0f7a4_35 ?_
  refine V_bipush 8 dJ6_bitCount_0f7a4_36 (by decide) ?_
  refine V_iushr dJ6_bitCount_0f7a4_38 ?_
  refine V_iadd dJ6_bitCount_0f7a4_39 ?_
  refine V_ist0 dJ6_bitCount_0f7a4_40 rfl (by decide) ?_
  refine V_ild0 dJ6_bitCount_0f7a4_41 ?_
  refine V_ild0 dJ6_bitCount_0f7a4_42 ?_
  refine V_bipush 16 dJ6_bitCount_0f7a4_43 (by decide) ?_
  refine V_iushr dJ6_bitCount_0f7a4_45 ?_
  refine V_iadd dJ6_bitCount_0f7a4_46 ?_
  refine V_ist0 dJ6_bitCount_0f7a4_47 rfl (by decide) ?_
  refine V_ild0 dJ6_bitCount_0f7a4_48 ?_
  refine V_bipush 63 dJ6_bitCount_0f7a4_49 (by decide) ?_
  refine V_iand dJ6_bitCount_0f7a4_51 ?_
  exact V_iret hX dJ6_bitCount_0f7a4_52 rfl rfl rfl
def geC (μ : Sm) (M a b q r : Nat) : Int32 := if μ 4 a = μ 4 b ∨ bitI (μ 11 0) (nI a) ∨ bitI (μ 11 0) (nI b) then 0 else
  if feC μ q (clC μ (nI q) M ^^^ (oneI a ||| oneI b)) M - feC μ q (clC μ (nI q) M) M < 0 ∨ ¬ 0 ≤ feC μ r (clC μ (nI r) M ^^^ (oneI a ||| oneI b)) M - feC μ r (clC μ (nI r) M) M then 0 else
  (feC μ q (clC μ (nI q) M ^^^ (oneI a ||| oneI b)) M - feC μ q (clC μ (nI q) M) M) + (feC μ r (clC μ (nI r) M ^^^ (oneI a ||| oneI b)) M - feC μ r (clC μ (nI r) M) M)
set_option maxRecDepth 100000 in
set_option maxHeartbeats 4000000 in
theorem ok_gainOfExchange (hM : σ 5 10 0 = nI M) (h6 : M ≤ 6) (a b q r : Nat) (ha : a < 6) (hb : b < 6) (hq4 : q < 4) (hr4 : r < 4) (hq : σ 5 4 a = nI q) (hr : σ 5 4 b = nI r) : Ok 4 yX5_gainOfExchange cX5_gainOfExchange 8 (some .int) D tc [.ref (A 0), .int (nI a), .int (nI b)] (cW A tc σ) (some (.int (geC (σ 5) M a b q r))) (cW A tc σ) := by
  refine Ok_of RX5 rfl (by decide) [some (.ref (A 0)), some (.int (nI a)), some (.int (nI b)), none, none, none, none, none] rfl (Nat.le_of_ble_eq_true rfl) ?_
  intro X hX
  refine V_ald0 dX5_gainOfExchange_0 ?_
  refine V_get lf_X5_20 dX5_gainOfExchange_1 cW_main rfl ?_
  refine V_get lf_X5_100 dX5_gainOfExchange_4 (cW_mkt now5) rfl ?_
  refine V_ild1 dX5_gainOfExchange_7 ?_
  refine V_ialdk dX5_gainOfExchange_8 (cW_ma4 now5) ⟨ha, by decide⟩ ?_
  refine V_top (y := nI q) hq ?_
  refine V_ist3 dX5_gainOfExchange_9 rfl (by decide) ?_
  refine V_ald0 dX5_gainOfExchange_10 ?_
  refine V_get lf_X5_20 dX5_gainOfExchange_11 cW_main rfl ?_
  refine V_get lf_X5_100 dX5_gainOfExchange_14 (cW_mkt now5) rfl ?_
  refine V_ild2 dX5_gainOfExchange_17 ?_
  refine V_ialdk dX5_gainOfExchange_18 (cW_ma4 now5) ⟨hb, by decide⟩ ?_
  refine V_top (y := nI r) hr ?_
  refine V_ist4 dX5_gainOfExchange_19 rfl (by decide) ?_
  refine V_ild3 dX5_gainOfExchange_21 ?_
  refine V_ild4 dX5_gainOfExchange_22 ?_
  refine V_icmp_eq 49 dX5_gainOfExchange_24 (by decide) (fun c24 => ?_) (fun c24 => ?_)
  · refine V_iconst 0 dX5_gainOfExchange_49 (by decide) ?_
    exact V_iret hX dX5_gainOfExchange_50 rfl (by (try first | replace c24 := eq_false c24 | replace c24 := eq_true c24); (try first | replace c35 := eq_false c35 | replace c35 := eq_true c35); (try first | replace c46 := eq_false c46 | replace c46 := eq_true c46); simp only [geC, oneI, *, not_true_eq_false, not_false_eq_true, and_self, true_and, and_true, false_and, and_false, true_or, or_true, false_or, or_false, or_self, ↓reduceIte]) rfl
  · refine V_ald0 dX5_gainOfExchange_27 ?_
    refine V_get lf_X5_20 dX5_gainOfExchange_28 cW_main rfl ?_
    refine V_ild1 dX5_gainOfExchange_31 ?_
    refine V_callV lm_X5_109 (ok_isOpened now5 _) dX5_gainOfExchange_32 (cW_mkt now5) rfl (dep hX (by decide)) rfl (Nat.le_of_ble_eq_true rfl) ?_
    refine V_if_ne 49 dX5_gainOfExchange_35 (by decide) (fun c35 => ?_) (fun c35 => ?_)
    · try rw [b2i_ne] at c35
      try rw [Decidable.not_not] at c35
      refine V_iconst 0 dX5_gainOfExchange_49 (by decide) ?_
      exact V_iret hX dX5_gainOfExchange_50 rfl (by (try first | replace c24 := eq_false c24 | replace c24 := eq_true c24); (try first | replace c35 := eq_false c35 | replace c35 := eq_true c35); (try first | replace c46 := eq_false c46 | replace c46 := eq_true c46); simp only [geC, oneI, *, not_true_eq_false, not_false_eq_true, and_self, true_and, and_true, false_and, and_false, true_or, or_true, false_or, or_false, or_self, ↓reduceIte]) rfl
    · try rw [b2i_eq] at c35
      try rw [Decidable.not_not] at c35
      refine V_ald0 dX5_gainOfExchange_38 ?_
      refine V_get lf_X5_20 dX5_gainOfExchange_39 cW_main rfl ?_
      refine V_ild2 dX5_gainOfExchange_42 ?_
      refine V_callV lm_X5_109 (ok_isOpened now5 _) dX5_gainOfExchange_43 (cW_mkt now5) rfl (dep hX (by decide)) rfl (Nat.le_of_ble_eq_true rfl) ?_
      refine V_if_eq 51 dX5_gainOfExchange_46 (by decide) (fun c46 => ?_) (fun c46 => ?_)
      · try rw [b2i_eq] at c46
        try rw [Decidable.not_not] at c46
        refine V_iconst 1 dX5_gainOfExchange_51 (by decide) ?_
        refine V_ild1 dX5_gainOfExchange_52 ?_
        refine V_ishl dX5_gainOfExchange_53 ?_
        refine V_iconst 1 dX5_gainOfExchange_54 (by decide) ?_
        refine V_ild2 dX5_gainOfExchange_55 ?_
        refine V_ishl dX5_gainOfExchange_56 ?_
        refine V_ior dX5_gainOfExchange_57 ?_
        refine V_ist5 dX5_gainOfExchange_58 rfl (by decide) ?_
        refine V_ald0 dX5_gainOfExchange_60 ?_
        refine V_get lf_X5_20 dX5_gainOfExchange_61 cW_main rfl ?_
        refine V_ild3 dX5_gainOfExchange_64 ?_
        refine V_ald0 dX5_gainOfExchange_65 ?_
        refine V_get lf_X5_20 dX5_gainOfExchange_66 cW_main rfl ?_
        refine V_ild3 dX5_gainOfExchange_69 ?_
        refine V_callV lm_X5_121 (ok_closedOf now5 hM h6 _) dX5_gainOfExchange_70 (cW_mkt now5) rfl (dep hX (by decide)) rfl (Nat.le_of_ble_eq_true rfl) ?_
        refine V_ild5 dX5_gainOfExchange_73 ?_
        refine V_ixor dX5_gainOfExchange_75 ?_
        refine V_callV lm_X5_176 (ok_feastWith now5 hM h6 q hq4 _) dX5_gainOfExchange_76 (cW_mkt now5) rfl (dep hX (by decide)) rfl (Nat.le_of_ble_eq_true rfl) ?_
        refine V_ald0 dX5_gainOfExchange_79 ?_
        refine V_get lf_X5_20 dX5_gainOfExchange_80 cW_main rfl ?_
        refine V_ild3 dX5_gainOfExchange_83 ?_
        refine V_ald0 dX5_gainOfExchange_84 ?_
        refine V_get lf_X5_20 dX5_gainOfExchange_85 cW_main rfl ?_
        refine V_ild3 dX5_gainOfExchange_88 ?_
        refine V_callV lm_X5_121 (ok_closedOf now5 hM h6 _) dX5_gainOfExchange_89 (cW_mkt now5) rfl (dep hX (by decide)) rfl (Nat.le_of_ble_eq_true rfl) ?_
        refine V_callV lm_X5_176 (ok_feastWith now5 hM h6 q hq4 _) dX5_gainOfExchange_92 (cW_mkt now5) rfl (dep hX (by decide)) rfl (Nat.le_of_ble_eq_true rfl) ?_
        refine V_isub dX5_gainOfExchange_95 ?_
        refine V_ist6 dX5_gainOfExchange_96 rfl (by decide) ?_
        refine V_ald0 dX5_gainOfExchange_98 ?_
        refine V_get lf_X5_20 dX5_gainOfExchange_99 cW_main rfl ?_
        refine V_ild4 dX5_gainOfExchange_102 ?_
        refine V_ald0 dX5_gainOfExchange_104 ?_
        refine V_get lf_X5_20 dX5_gainOfExchange_105 cW_main rfl ?_
        refine V_ild4 dX5_gainOfExchange_108 ?_
        refine V_callV lm_X5_121 (ok_closedOf now5 hM h6 _) dX5_gainOfExchange_110 (cW_mkt now5) rfl (dep hX (by decide)) rfl (Nat.le_of_ble_eq_true rfl) ?_
        refine V_ild5 dX5_gainOfExchange_113 ?_
        refine V_ixor dX5_gainOfExchange_115 ?_
        refine V_callV lm_X5_176 (ok_feastWith now5 hM h6 r hr4 _) dX5_gainOfExchange_116 (cW_mkt now5) rfl (dep hX (by decide)) rfl (Nat.le_of_ble_eq_true rfl) ?_
        refine V_ald0 dX5_gainOfExchange_119 ?_
        refine V_get lf_X5_20 dX5_gainOfExchange_120 cW_main rfl ?_
        refine V_ild4 dX5_gainOfExchange_123 ?_
        refine V_ald0 dX5_gainOfExchange_125 ?_
        refine V_get lf_X5_20 dX5_gainOfExchange_126 cW_main rfl ?_
        refine V_ild4 dX5_gainOfExchange_129 ?_
        refine V_callV lm_X5_121 (ok_closedOf now5 hM h6 _) dX5_gainOfExchange_131 (cW_mkt now5) rfl (dep hX (by decide)) rfl (Nat.le_of_ble_eq_true rfl) ?_
        refine V_callV lm_X5_176 (ok_feastWith now5 hM h6 r hr4 _) dX5_gainOfExchange_134 (cW_mkt now5) rfl (dep hX (by decide)) rfl (Nat.le_of_ble_eq_true rfl) ?_
        refine V_isub dX5_gainOfExchange_137 ?_
        refine V_ist7 dX5_gainOfExchange_138 rfl (by decide) ?_
        refine V_ild6 dX5_gainOfExchange_140 ?_
        refine V_if_lt 150 dX5_gainOfExchange_142 (by decide) (fun c142 => ?_) (fun c142 => ?_)
        · refine V_iconst 0 dX5_gainOfExchange_150 (by decide) ?_
          refine V_goto 159 dX5_gainOfExchange_151 (by decide) ?_
          exact V_iret hX dX5_gainOfExchange_159 rfl (by (try first | replace c24 := eq_false c24 | replace c24 := eq_true c24); (try first | replace c35 := eq_false c35 | replace c35 := eq_true c35); (try first | replace c46 := eq_false c46 | replace c46 := eq_true c46); simp only [geC, oneI, *, not_true_eq_false, not_false_eq_true, and_self, true_and, and_true, false_and, and_false, true_or, or_true, false_or, or_false, or_self, ↓reduceIte]) rfl
        · refine V_ild7 dX5_gainOfExchange_145 ?_
          refine V_if_ge 154 dX5_gainOfExchange_147 (by decide) (fun c147 => ?_) (fun c147 => ?_)
          · refine V_ild6 dX5_gainOfExchange_154 ?_
            refine V_ild7 dX5_gainOfExchange_156 ?_
            refine V_iadd dX5_gainOfExchange_158 ?_
            exact V_iret hX dX5_gainOfExchange_159 rfl (by (try first | replace c24 := eq_false c24 | replace c24 := eq_true c24); (try first | replace c35 := eq_false c35 | replace c35 := eq_true c35); (try first | replace c46 := eq_false c46 | replace c46 := eq_true c46); simp only [geC, oneI, *, not_true_eq_false, not_false_eq_true, and_self, true_and, and_true, false_and, and_false, true_or, or_true, false_or, or_false, or_self, ↓reduceIte]) rfl
          · refine V_iconst 0 dX5_gainOfExchange_150 (by decide) ?_
            refine V_goto 159 dX5_gainOfExchange_151 (by decide) ?_
            exact V_iret hX dX5_gainOfExchange_159 rfl (by (try first | replace c24 := eq_false c24 | replace c24 := eq_true c24); (try first | replace c35 := eq_false c35 | replace c35 := eq_true c35); (try first | replace c46 := eq_false c46 | replace c46 := eq_true c46); simp only [geC, oneI, *, not_true_eq_false, not_false_eq_true, and_self, true_and, and_true, false_and, and_false, true_or, or_true, false_or, or_false, or_self, ↓reduceIte]) rfl
      · try rw [b2i_ne] at c46
        try rw [Decidable.not_not] at c46
        refine V_iconst 0 dX5_gainOfExchange_49 (by decide) ?_
        exact V_iret hX dX5_gainOfExchange_50 rfl (by (try first | replace c24 := eq_false c24 | replace c24 := eq_true c24); (try first | replace c35 := eq_false c35 | replace c35 := eq_true c35); (try first | replace c46 := eq_false c46 | replace c46 := eq_true c46); simp only [geC, oneI, *, not_true_eq_false, not_false_eq_true, and_self, true_and, and_true, false_and, and_false, true_or, or_true, false_or, or_false, or_self, ↓reduceIte]) rfl
abbrev T3 : Type := Int32 × Int32 × Int32
def sbS (μ : Sm) (M p : Nat) (v th ot : Int32) (s : Int32) (t : T3) : T3 :=
  if s &&& (ot ^^^ (-1)) = 0 ∧ ¬ μ 0 p < psC μ s M ∧ v ≤ feC μ p (th ||| s) M ∧ (t.1 = -9 ∨ psC μ s M < t.2.1 ∨ (psC μ s M = t.2.1 ∧ ¬ t.2.2 ≤ bcI s)) then (s, psC μ s M, bcI s) else t
def sbC (μ : Sm) (M p : Nat) (v th ot : Int32) : Nat → T3
  | 0 => (-9, 0, 0)
  | k + 1 => sbS μ M p v th ot (nI k) (sbC μ M p v th ot k)
def sdS (μ : Sm) (M p : Nat) (v th : Int32) (s : Int32) (t : T3) : T3 :=
  if s &&& (th ^^^ (-1)) = 0 ∧ v ≤ psC μ s M ∧ (t.1 = -9 ∨ t.2.1 < feC μ p (th &&& (s ^^^ (-1))) M ∨ (feC μ p (th &&& (s ^^^ (-1))) M = t.2.1 ∧ ¬ t.2.2 ≤ bcI s)) then (s, feC μ p (th &&& (s ^^^ (-1))) M, bcI s) else t
def sdC (μ : Sm) (M p : Nat) (v th : Int32) : Nat → T3
  | 0 => (-9, 0, 0)
  | k + 1 => sdS μ M p v th (nI k) (sdC μ M p v th k)
def otsC (μ : Sm) (th : Int32) : Int32 := (((1 <<< (μ 10 0 &&& 31)) - 1) &&& (μ 11 0 ^^^ (-1))) &&& (th ^^^ (-1))
theorem L64 {k : Nat} (h : k < 64) : ¬ (64 : Int32) ≤ nI k := ge_no (x := 64) (M := 64) (by decide) h (by decide)
theorem E64 : (64 : Int32) ≤ nI 64 := by decide
set_option maxRecDepth 100000 in
set_option maxHeartbeats 4000000 in
theorem ok_setToBuy (hM : σ 5 10 0 = nI M) (h6 : M ≤ 6) (p : Nat) (hp : p < 4) (v : Int32) : Ok 4 yX5_setToBuy cX5_setToBuy 11 (some .int) D tc [.ref (A 0), .int (nI p), .int v] (cW A tc σ) (some (.int (sbC (σ 5) M p v (clC (σ 5) (nI p) M) (otsC (σ 5) (clC (σ 5) (nI p) M)) 64).1)) (cW A tc σ) := by
  refine Ok_of RX5 rfl (by decide) [some (.ref (A 0)), some (.int (nI p)), some (.int v), none, none, none, none, none, none, none, none] rfl (Nat.le_of_ble_eq_true rfl) ?_
  intro X hX
  have lpS : ∀ k, k < 64 → V X D tc cX5_setToBuy RX5 11 35 ((fun k => [some (.ref (A 0)), some (.int (nI p)), some (.int v), some (.int (clC (σ 5) (nI p) M)), some (.int (otsC (σ 5) (clC (σ 5) (nI p) M))), some (.int (sbC (σ 5) M p v (clC (σ 5) (nI p) M) (otsC (σ 5) (clC (σ 5) (nI p) M)) k).1), some (.int (sbC (σ 5) M p v (clC (σ 5) (nI p) M) (otsC (σ 5) (clC (σ 5) (nI p) M)) k).2.1), some (.int (sbC (σ 5) M p v (clC (σ 5) (nI p) M) (otsC (σ 5) (clC (σ 5) (nI p) M)) k).2.2), some (.int (nI k)), none, none]) (k + 1)) [] ((fun k => cW A tc σ) (k + 1)) → V X D tc cX5_setToBuy RX5 11 35 ((fun k => [some (.ref (A 0)), some (.int (nI p)), some (.int v), some (.int (clC (σ 5) (nI p) M)), some (.int (otsC (σ 5) (clC (σ 5) (nI p) M))), some (.int (sbC (σ 5) M p v (clC (σ 5) (nI p) M) (otsC (σ 5) (clC (σ 5) (nI p) M)) k).1), some (.int (sbC (σ 5) M p v (clC (σ 5) (nI p) M) (otsC (σ 5) (clC (σ 5) (nI p) M)) k).2.1), some (.int (sbC (σ 5) M p v (clC (σ 5) (nI p) M) (otsC (σ 5) (clC (σ 5) (nI p) M)) k).2.2), some (.int (nI k)), none, none]) k) [] ((fun k => cW A tc σ) k) := by
    intro k hk ihlp
    refine V_ild8 dX5_setToBuy_35 ?_
    refine V_bipush 64 dX5_setToBuy_37 (by decide) ?_
    refine V_icmp_ge 152 dX5_setToBuy_39 (by decide) (fun c39 => ?_) (fun c39 => ?_)
    · exact absurd c39 (L64 hk)
    · refine V_ild8 dX5_setToBuy_42 ?_
      refine V_ild4 dX5_setToBuy_44 ?_
      refine V_callS ls_X5_211 (ok_isWithin _ _) dX5_setToBuy_46 (dep hX (by decide)) rfl (Nat.le_of_ble_eq_true rfl) ?_
      refine V_if_ne 55 dX5_setToBuy_49 (by decide) (fun c49 => ?_) (fun c49 => ?_)
      · try rw [b2i_ne] at c49
        try rw [Decidable.not_not] at c49
        refine V_ald0 dX5_setToBuy_55 ?_
        refine V_get lf_X5_20 dX5_setToBuy_56 cW_main rfl ?_
        refine V_ild8 dX5_setToBuy_59 ?_
        refine V_callV lm_X5_192 (ok_priceOfSet now5 hM h6 _) dX5_setToBuy_61 (cW_mkt now5) rfl (dep hX (by decide)) rfl (Nat.le_of_ble_eq_true rfl) ?_
        refine V_ist9 dX5_setToBuy_64 rfl (by decide) ?_
        refine V_ild9 dX5_setToBuy_66 ?_
        refine V_ald0 dX5_setToBuy_68 ?_
        refine V_get lf_X5_20 dX5_setToBuy_69 cW_main rfl ?_
        refine V_get lf_X5_115 dX5_setToBuy_72 (cW_mkt now5) rfl ?_
        refine V_ild1 dX5_setToBuy_75 ?_
        refine V_ialdk dX5_setToBuy_76 (cW_ma0 now5) ⟨hp, by decide⟩ ?_
        refine V_icmp_gt 146 dX5_setToBuy_77 (by decide) (fun c77 => ?_) (fun c77 => ?_)
        · refine V_inc8 (nI (k + 1)) dX5_setToBuy_146 (nI_inc k) rfl (by decide) ?_
          refine V_goto 35 dX5_setToBuy_149 (by decide) ?_
          refine V_dr9 ?_
          refine V_dr10 ?_
          refine V_eq ?_ rfl rfl ihlp
          (try first | replace c110 := eq_false c110 | replace c110 := eq_true c110)
          (try first | replace c124 := eq_false c124 | replace c124 := eq_true c124)
          simp only [sbC, sbS, *, not_true_eq_false, not_false_eq_true, and_self, true_and, and_true, false_and, and_false, true_or, or_true, false_or, or_false, or_self, ↓reduceIte]
        · refine V_ald0 dX5_setToBuy_80 ?_
          refine V_get lf_X5_20 dX5_setToBuy_81 cW_main rfl ?_
          refine V_ild1 dX5_setToBuy_84 ?_
          refine V_ild3 dX5_setToBuy_85 ?_
          refine V_ild8 dX5_setToBuy_86 ?_
          refine V_ior dX5_setToBuy_88 ?_
          refine V_callV lm_X5_176 (ok_feastWith now5 hM h6 p hp _) dX5_setToBuy_89 (cW_mkt now5) rfl (dep hX (by decide)) rfl (Nat.le_of_ble_eq_true rfl) ?_
          refine V_ild2 dX5_setToBuy_92 ?_
          refine V_icmp_ge 99 dX5_setToBuy_93 (by decide) (fun c93 => ?_) (fun c93 => ?_)
          · refine V_ild8 dX5_setToBuy_99 ?_
            refine V_callS ls_X5_124 (ok_bitCount _) dX5_setToBuy_101 (dep hX (by decide)) rfl (Nat.le_of_ble_eq_true rfl) ?_
            refine V_ist10 dX5_setToBuy_104 rfl (by decide) ?_
            refine V_ild5 dX5_setToBuy_106 ?_
            refine V_bipush (-9) dX5_setToBuy_108 (by decide) ?_
            refine V_icmp_eq 134 dX5_setToBuy_110 (by decide) (fun c110 => ?_) (fun c110 => ?_)
            · refine V_ild8 dX5_setToBuy_134 ?_
              refine V_ist5 dX5_setToBuy_136 rfl (by decide) ?_
              refine V_ild9 dX5_setToBuy_138 ?_
              refine V_ist6 dX5_setToBuy_140 rfl (by decide) ?_
              refine V_ild10 dX5_setToBuy_142 ?_
              refine V_ist7 dX5_setToBuy_144 rfl (by decide) ?_
              refine V_inc8 (nI (k + 1)) dX5_setToBuy_146 (nI_inc k) rfl (by decide) ?_
              refine V_goto 35 dX5_setToBuy_149 (by decide) ?_
              refine V_dr9 ?_
              refine V_dr10 ?_
              refine V_eq ?_ rfl rfl ihlp
              (try first | replace c110 := eq_false c110 | replace c110 := eq_true c110)
              (try first | replace c124 := eq_false c124 | replace c124 := eq_true c124)
              simp only [sbC, sbS, *, not_true_eq_false, not_false_eq_true, and_self, true_and, and_true, false_and, and_false, true_or, or_true, false_or, or_false, or_self, ↓reduceIte]
            · refine V_ild9 dX5_setToBuy_113 ?_
              refine V_ild6 dX5_setToBuy_115 ?_
              refine V_icmp_lt 134 dX5_setToBuy_117 (by decide) (fun c117 => ?_) (fun c117 => ?_)
              · refine V_ild8 dX5_setToBuy_134 ?_
                refine V_ist5 dX5_setToBuy_136 rfl (by decide) ?_
                refine V_ild9 dX5_setToBuy_138 ?_
                refine V_ist6 dX5_setToBuy_140 rfl (by decide) ?_
                refine V_ild10 dX5_setToBuy_142 ?_
                refine V_ist7 dX5_setToBuy_144 rfl (by decide) ?_
                refine V_inc8 (nI (k + 1)) dX5_setToBuy_146 (nI_inc k) rfl (by decide) ?_
                refine V_goto 35 dX5_setToBuy_149 (by decide) ?_
                refine V_dr9 ?_
                refine V_dr10 ?_
                refine V_eq ?_ rfl rfl ihlp
                (try first | replace c110 := eq_false c110 | replace c110 := eq_true c110)
                (try first | replace c124 := eq_false c124 | replace c124 := eq_true c124)
                simp only [sbC, sbS, *, not_true_eq_false, not_false_eq_true, and_self, true_and, and_true, false_and, and_false, true_or, or_true, false_or, or_false, or_self, ↓reduceIte]
              · refine V_ild9 dX5_setToBuy_120 ?_
                refine V_ild6 dX5_setToBuy_122 ?_
                refine V_icmp_ne 146 dX5_setToBuy_124 (by decide) (fun c124 => ?_) (fun c124 => ?_)
                · refine V_inc8 (nI (k + 1)) dX5_setToBuy_146 (nI_inc k) rfl (by decide) ?_
                  refine V_goto 35 dX5_setToBuy_149 (by decide) ?_
                  refine V_dr9 ?_
                  refine V_dr10 ?_
                  refine V_eq ?_ rfl rfl ihlp
                  (try first | replace c110 := eq_false c110 | replace c110 := eq_true c110)
                  (try first | replace c124 := eq_false c124 | replace c124 := eq_true c124)
                  simp only [sbC, sbS, *, not_true_eq_false, not_false_eq_true, and_self, true_and, and_true, false_and, and_false, true_or, or_true, false_or, or_false, or_self, ↓reduceIte]
                · refine V_ild10 dX5_setToBuy_127 ?_
                  refine V_ild7 dX5_setToBuy_129 ?_
                  refine V_icmp_ge 146 dX5_setToBuy_131 (by decide) (fun c131 => ?_) (fun c131 => ?_)
                  · refine V_inc8 (nI (k + 1)) dX5_setToBuy_146 (nI_inc k) rfl (by decide) ?_
                    refine V_goto 35 dX5_setToBuy_149 (by decide) ?_
                    refine V_dr9 ?_
                    refine V_dr10 ?_
                    refine V_eq ?_ rfl rfl ihlp
                    (try first | replace c110 := eq_false c110 | replace c110 := eq_true c110)
                    (try first | replace c124 := eq_false c124 | replace c124 := eq_true c124)
                    simp only [sbC, sbS, *, not_true_eq_false, not_false_eq_true, and_self, true_and, and_true, false_and, and_false, true_or, or_true, false_or, or_false, or_self, ↓reduceIte]
                  · refine V_ild8 dX5_setToBuy_134 ?_
                    refine V_ist5 dX5_setToBuy_136 rfl (by decide) ?_
                    refine V_ild9 dX5_setToBuy_138 ?_
                    refine V_ist6 dX5_setToBuy_140 rfl (by decide) ?_
                    refine V_ild10 dX5_setToBuy_142 ?_
                    refine V_ist7 dX5_setToBuy_144 rfl (by decide) ?_
                    refine V_inc8 (nI (k + 1)) dX5_setToBuy_146 (nI_inc k) rfl (by decide) ?_
                    refine V_goto 35 dX5_setToBuy_149 (by decide) ?_
                    refine V_dr9 ?_
                    refine V_dr10 ?_
                    refine V_eq ?_ rfl rfl ihlp
                    (try first | replace c110 := eq_false c110 | replace c110 := eq_true c110)
                    (try first | replace c124 := eq_false c124 | replace c124 := eq_true c124)
                    simp only [sbC, sbS, *, not_true_eq_false, not_false_eq_true, and_self, true_and, and_true, false_and, and_false, true_or, or_true, false_or, or_false, or_self, ↓reduceIte]
          · refine V_goto 146 dX5_setToBuy_96 (by decide) ?_
            refine V_inc8 (nI (k + 1)) dX5_setToBuy_146 (nI_inc k) rfl (by decide) ?_
            refine V_goto 35 dX5_setToBuy_149 (by decide) ?_
            refine V_dr9 ?_
            refine V_dr10 ?_
            refine V_eq ?_ rfl rfl ihlp
            (try first | replace c110 := eq_false c110 | replace c110 := eq_true c110)
            (try first | replace c124 := eq_false c124 | replace c124 := eq_true c124)
            simp only [sbC, sbS, *, not_true_eq_false, not_false_eq_true, and_self, true_and, and_true, false_and, and_false, true_or, or_true, false_or, or_false, or_self, ↓reduceIte]
      · try rw [b2i_eq] at c49
        try rw [Decidable.not_not] at c49
        refine V_goto 146 dX5_setToBuy_52 (by decide) ?_
        refine V_inc8 (nI (k + 1)) dX5_setToBuy_146 (nI_inc k) rfl (by decide) ?_
        refine V_goto 35 dX5_setToBuy_149 (by decide) ?_
        refine V_dr9 ?_
        refine V_dr10 ?_
        refine V_eq ?_ rfl rfl ihlp
        (try first | replace c110 := eq_false c110 | replace c110 := eq_true c110)
        (try first | replace c124 := eq_false c124 | replace c124 := eq_true c124)
        simp only [sbC, sbS, *, not_true_eq_false, not_false_eq_true, and_self, true_and, and_true, false_and, and_false, true_or, or_true, false_or, or_false, or_self, ↓reduceIte]
  have lpE : V X D tc cX5_setToBuy RX5 11 35 ((fun k => [some (.ref (A 0)), some (.int (nI p)), some (.int v), some (.int (clC (σ 5) (nI p) M)), some (.int (otsC (σ 5) (clC (σ 5) (nI p) M))), some (.int (sbC (σ 5) M p v (clC (σ 5) (nI p) M) (otsC (σ 5) (clC (σ 5) (nI p) M)) k).1), some (.int (sbC (σ 5) M p v (clC (σ 5) (nI p) M) (otsC (σ 5) (clC (σ 5) (nI p) M)) k).2.1), some (.int (sbC (σ 5) M p v (clC (σ 5) (nI p) M) (otsC (σ 5) (clC (σ 5) (nI p) M)) k).2.2), some (.int (nI k)), none, none]) (64)) [] ((fun k => cW A tc σ) (64)) := by
    refine V_ild8 dX5_setToBuy_35 ?_
    refine V_bipush 64 dX5_setToBuy_37 (by decide) ?_
    refine V_icmp_ge 152 dX5_setToBuy_39 (by decide) (fun c39 => ?_) (fun c39 => ?_)
    · refine V_ild5 dX5_setToBuy_152 ?_
      exact V_iret hX dX5_setToBuy_154 rfl rfl rfl
    · exact absurd E64 c39
  have lp := V_for (fun k => [some (.ref (A 0)), some (.int (nI p)), some (.int v), some (.int (clC (σ 5) (nI p) M)), some (.int (otsC (σ 5) (clC (σ 5) (nI p) M))), some (.int (sbC (σ 5) M p v (clC (σ 5) (nI p) M) (otsC (σ 5) (clC (σ 5) (nI p) M)) k).1), some (.int (sbC (σ 5) M p v (clC (σ 5) (nI p) M) (otsC (σ 5) (clC (σ 5) (nI p) M)) k).2.1), some (.int (sbC (σ 5) M p v (clC (σ 5) (nI p) M) (otsC (σ 5) (clC (σ 5) (nI p) M)) k).2.2), some (.int (nI k)), none, none]) (fun k => cW A tc σ) (64) lpS lpE
  refine V_ald0 dX5_setToBuy_0 ?_
  refine V_get lf_X5_20 dX5_setToBuy_1 cW_main rfl ?_
  refine V_ild1 dX5_setToBuy_4 ?_
  refine V_callV lm_X5_121 (ok_closedOf now5 hM h6 _) dX5_setToBuy_5 (cW_mkt now5) rfl (dep hX (by decide)) rfl (Nat.le_of_ble_eq_true rfl) ?_
  refine V_ist3 dX5_setToBuy_8 rfl (by decide) ?_
  refine V_ald0 dX5_setToBuy_9 ?_
  refine V_get lf_X5_20 dX5_setToBuy_10 cW_main rfl ?_
  refine V_callV lm_X5_268 (ok_closed now5) dX5_setToBuy_13 (cW_mkt now5) rfl (dep hX (by decide)) rfl (Nat.le_of_ble_eq_true rfl) ?_
  refine V_ild3 dX5_setToBuy_16 ?_
  refine V_iconst (-1) dX5_setToBuy_17 (by decide) ?_
  refine V_ixor dX5_setToBuy_18 ?_
  refine V_iand dX5_setToBuy_19 ?_
  refine V_ist4 dX5_setToBuy_20 rfl (by decide) ?_
  refine V_bipush (-9) dX5_setToBuy_22 (by decide) ?_
  refine V_ist5 dX5_setToBuy_24 rfl (by decide) ?_
  refine V_iconst 0 dX5_setToBuy_26 (by decide) ?_
  refine V_ist6 dX5_setToBuy_27 rfl (by decide) ?_
  refine V_iconst 0 dX5_setToBuy_29 (by decide) ?_
  refine V_ist7 dX5_setToBuy_30 rfl (by decide) ?_
  refine V_iconst 0 dX5_setToBuy_32 (by decide) ?_
  refine V_ist8 dX5_setToBuy_33 rfl (by decide) ?_
  exact lp 0 (Nat.zero_le _)
set_option maxRecDepth 100000 in
set_option maxHeartbeats 4000000 in
theorem ok_setToSell (hM : σ 5 10 0 = nI M) (h6 : M ≤ 6) (p : Nat) (hp : p < 4) (v : Int32) : Ok 4 yX5_setToSell cX5_setToSell 10 (some .int) D tc [.ref (A 0), .int (nI p), .int v] (cW A tc σ) (some (.int (sdC (σ 5) M p v (clC (σ 5) (nI p) M) 64).1)) (cW A tc σ) := by
  refine Ok_of RX5 rfl (by decide) [some (.ref (A 0)), some (.int (nI p)), some (.int v), none, none, none, none, none, none, none] rfl (Nat.le_of_ble_eq_true rfl) ?_
  intro X hX
  have lpS : ∀ k, k < 64 → V X D tc cX5_setToSell RX5 10 22 ((fun k => [some (.ref (A 0)), some (.int (nI p)), some (.int v), some (.int (clC (σ 5) (nI p) M)), some (.int (sdC (σ 5) M p v (clC (σ 5) (nI p) M) k).1), some (.int (sdC (σ 5) M p v (clC (σ 5) (nI p) M) k).2.1), some (.int (sdC (σ 5) M p v (clC (σ 5) (nI p) M) k).2.2), some (.int (nI k)), none, none]) (k + 1)) [] ((fun k => cW A tc σ) (k + 1)) → V X D tc cX5_setToSell RX5 10 22 ((fun k => [some (.ref (A 0)), some (.int (nI p)), some (.int v), some (.int (clC (σ 5) (nI p) M)), some (.int (sdC (σ 5) M p v (clC (σ 5) (nI p) M) k).1), some (.int (sdC (σ 5) M p v (clC (σ 5) (nI p) M) k).2.1), some (.int (sdC (σ 5) M p v (clC (σ 5) (nI p) M) k).2.2), some (.int (nI k)), none, none]) k) [] ((fun k => cW A tc σ) k) := by
    intro k hk ihlp
    refine V_ild7 dX5_setToSell_22 ?_
    refine V_bipush 64 dX5_setToSell_24 (by decide) ?_
    refine V_icmp_ge 123 dX5_setToSell_26 (by decide) (fun c26 => ?_) (fun c26 => ?_)
    · exact absurd c26 (L64 hk)
    · refine V_ild7 dX5_setToSell_29 ?_
      refine V_ild3 dX5_setToSell_31 ?_
      refine V_callS ls_X5_211 (ok_isWithin _ _) dX5_setToSell_32 (dep hX (by decide)) rfl (Nat.le_of_ble_eq_true rfl) ?_
      refine V_if_eq 117 dX5_setToSell_35 (by decide) (fun c35 => ?_) (fun c35 => ?_)
      · try rw [b2i_eq] at c35
        try rw [Decidable.not_not] at c35
        refine V_inc7 (nI (k + 1)) dX5_setToSell_117 (nI_inc k) rfl (by decide) ?_
        refine V_goto 22 dX5_setToSell_120 (by decide) ?_
        refine V_dr8 ?_
        refine V_dr9 ?_
        refine V_eq ?_ rfl rfl ihlp
        (try first | replace c81 := eq_false c81 | replace c81 := eq_true c81)
        (try first | replace c95 := eq_false c95 | replace c95 := eq_true c95)
        simp only [sdC, sdS, *, not_true_eq_false, not_false_eq_true, and_self, true_and, and_true, false_and, and_false, true_or, or_true, false_or, or_false, or_self, ↓reduceIte]
      · try rw [b2i_ne] at c35
        try rw [Decidable.not_not] at c35
        refine V_ald0 dX5_setToSell_38 ?_
        refine V_get lf_X5_20 dX5_setToSell_39 cW_main rfl ?_
        refine V_ild7 dX5_setToSell_42 ?_
        refine V_callV lm_X5_192 (ok_priceOfSet now5 hM h6 _) dX5_setToSell_44 (cW_mkt now5) rfl (dep hX (by decide)) rfl (Nat.le_of_ble_eq_true rfl) ?_
        refine V_ild2 dX5_setToSell_47 ?_
        refine V_icmp_ge 54 dX5_setToSell_48 (by decide) (fun c48 => ?_) (fun c48 => ?_)
        · refine V_ald0 dX5_setToSell_54 ?_
          refine V_get lf_X5_20 dX5_setToSell_55 cW_main rfl ?_
          refine V_ild1 dX5_setToSell_58 ?_
          refine V_ild3 dX5_setToSell_59 ?_
          refine V_ild7 dX5_setToSell_60 ?_
          refine V_iconst (-1) dX5_setToSell_62 (by decide) ?_
          refine V_ixor dX5_setToSell_63 ?_
          refine V_iand dX5_setToSell_64 ?_
          refine V_callV lm_X5_176 (ok_feastWith now5 hM h6 p hp _) dX5_setToSell_65 (cW_mkt now5) rfl (dep hX (by decide)) rfl (Nat.le_of_ble_eq_true rfl) ?_
          refine V_ist8 dX5_setToSell_68 rfl (by decide) ?_
          refine V_ild7 dX5_setToSell_70 ?_
          refine V_callS ls_X5_124 (ok_bitCount _) dX5_setToSell_72 (dep hX (by decide)) rfl (Nat.le_of_ble_eq_true rfl) ?_
          refine V_ist9 dX5_setToSell_75 rfl (by decide) ?_
          refine V_ild4 dX5_setToSell_77 ?_
          refine V_bipush (-9) dX5_setToSell_79 (by decide) ?_
          refine V_icmp_eq 105 dX5_setToSell_81 (by decide) (fun c81 => ?_) (fun c81 => ?_)
          · refine V_ild7 dX5_setToSell_105 ?_
            refine V_ist4 dX5_setToSell_107 rfl (by decide) ?_
            refine V_ild8 dX5_setToSell_109 ?_
            refine V_ist5 dX5_setToSell_111 rfl (by decide) ?_
            refine V_ild9 dX5_setToSell_113 ?_
            refine V_ist6 dX5_setToSell_115 rfl (by decide) ?_
            refine V_inc7 (nI (k + 1)) dX5_setToSell_117 (nI_inc k) rfl (by decide) ?_
            refine V_goto 22 dX5_setToSell_120 (by decide) ?_
            refine V_dr8 ?_
            refine V_dr9 ?_
            refine V_eq ?_ rfl rfl ihlp
            (try first | replace c81 := eq_false c81 | replace c81 := eq_true c81)
            (try first | replace c95 := eq_false c95 | replace c95 := eq_true c95)
            simp only [sdC, sdS, *, not_true_eq_false, not_false_eq_true, and_self, true_and, and_true, false_and, and_false, true_or, or_true, false_or, or_false, or_self, ↓reduceIte]
          · refine V_ild8 dX5_setToSell_84 ?_
            refine V_ild5 dX5_setToSell_86 ?_
            refine V_icmp_gt 105 dX5_setToSell_88 (by decide) (fun c88 => ?_) (fun c88 => ?_)
            · refine V_ild7 dX5_setToSell_105 ?_
              refine V_ist4 dX5_setToSell_107 rfl (by decide) ?_
              refine V_ild8 dX5_setToSell_109 ?_
              refine V_ist5 dX5_setToSell_111 rfl (by decide) ?_
              refine V_ild9 dX5_setToSell_113 ?_
              refine V_ist6 dX5_setToSell_115 rfl (by decide) ?_
              refine V_inc7 (nI (k + 1)) dX5_setToSell_117 (nI_inc k) rfl (by decide) ?_
              refine V_goto 22 dX5_setToSell_120 (by decide) ?_
              refine V_dr8 ?_
              refine V_dr9 ?_
              refine V_eq ?_ rfl rfl ihlp
              (try first | replace c81 := eq_false c81 | replace c81 := eq_true c81)
              (try first | replace c95 := eq_false c95 | replace c95 := eq_true c95)
              simp only [sdC, sdS, *, not_true_eq_false, not_false_eq_true, and_self, true_and, and_true, false_and, and_false, true_or, or_true, false_or, or_false, or_self, ↓reduceIte]
            · refine V_ild8 dX5_setToSell_91 ?_
              refine V_ild5 dX5_setToSell_93 ?_
              refine V_icmp_ne 117 dX5_setToSell_95 (by decide) (fun c95 => ?_) (fun c95 => ?_)
              · refine V_inc7 (nI (k + 1)) dX5_setToSell_117 (nI_inc k) rfl (by decide) ?_
                refine V_goto 22 dX5_setToSell_120 (by decide) ?_
                refine V_dr8 ?_
                refine V_dr9 ?_
                refine V_eq ?_ rfl rfl ihlp
                (try first | replace c81 := eq_false c81 | replace c81 := eq_true c81)
                (try first | replace c95 := eq_false c95 | replace c95 := eq_true c95)
                simp only [sdC, sdS, *, not_true_eq_false, not_false_eq_true, and_self, true_and, and_true, false_and, and_false, true_or, or_true, false_or, or_false, or_self, ↓reduceIte]
              · refine V_ild9 dX5_setToSell_98 ?_
                refine V_ild6 dX5_setToSell_100 ?_
                refine V_icmp_ge 117 dX5_setToSell_102 (by decide) (fun c102 => ?_) (fun c102 => ?_)
                · refine V_inc7 (nI (k + 1)) dX5_setToSell_117 (nI_inc k) rfl (by decide) ?_
                  refine V_goto 22 dX5_setToSell_120 (by decide) ?_
                  refine V_dr8 ?_
                  refine V_dr9 ?_
                  refine V_eq ?_ rfl rfl ihlp
                  (try first | replace c81 := eq_false c81 | replace c81 := eq_true c81)
                  (try first | replace c95 := eq_false c95 | replace c95 := eq_true c95)
                  simp only [sdC, sdS, *, not_true_eq_false, not_false_eq_true, and_self, true_and, and_true, false_and, and_false, true_or, or_true, false_or, or_false, or_self, ↓reduceIte]
                · refine V_ild7 dX5_setToSell_105 ?_
                  refine V_ist4 dX5_setToSell_107 rfl (by decide) ?_
                  refine V_ild8 dX5_setToSell_109 ?_
                  refine V_ist5 dX5_setToSell_111 rfl (by decide) ?_
                  refine V_ild9 dX5_setToSell_113 ?_
                  refine V_ist6 dX5_setToSell_115 rfl (by decide) ?_
                  refine V_inc7 (nI (k + 1)) dX5_setToSell_117 (nI_inc k) rfl (by decide) ?_
                  refine V_goto 22 dX5_setToSell_120 (by decide) ?_
                  refine V_dr8 ?_
                  refine V_dr9 ?_
                  refine V_eq ?_ rfl rfl ihlp
                  (try first | replace c81 := eq_false c81 | replace c81 := eq_true c81)
                  (try first | replace c95 := eq_false c95 | replace c95 := eq_true c95)
                  simp only [sdC, sdS, *, not_true_eq_false, not_false_eq_true, and_self, true_and, and_true, false_and, and_false, true_or, or_true, false_or, or_false, or_self, ↓reduceIte]
        · refine V_goto 117 dX5_setToSell_51 (by decide) ?_
          refine V_inc7 (nI (k + 1)) dX5_setToSell_117 (nI_inc k) rfl (by decide) ?_
          refine V_goto 22 dX5_setToSell_120 (by decide) ?_
          refine V_dr8 ?_
          refine V_dr9 ?_
          refine V_eq ?_ rfl rfl ihlp
          (try first | replace c81 := eq_false c81 | replace c81 := eq_true c81)
          (try first | replace c95 := eq_false c95 | replace c95 := eq_true c95)
          simp only [sdC, sdS, *, not_true_eq_false, not_false_eq_true, and_self, true_and, and_true, false_and, and_false, true_or, or_true, false_or, or_false, or_self, ↓reduceIte]
  have lpE : V X D tc cX5_setToSell RX5 10 22 ((fun k => [some (.ref (A 0)), some (.int (nI p)), some (.int v), some (.int (clC (σ 5) (nI p) M)), some (.int (sdC (σ 5) M p v (clC (σ 5) (nI p) M) k).1), some (.int (sdC (σ 5) M p v (clC (σ 5) (nI p) M) k).2.1), some (.int (sdC (σ 5) M p v (clC (σ 5) (nI p) M) k).2.2), some (.int (nI k)), none, none]) (64)) [] ((fun k => cW A tc σ) (64)) := by
    refine V_ild7 dX5_setToSell_22 ?_
    refine V_bipush 64 dX5_setToSell_24 (by decide) ?_
    refine V_icmp_ge 123 dX5_setToSell_26 (by decide) (fun c26 => ?_) (fun c26 => ?_)
    · refine V_ild4 dX5_setToSell_123 ?_
      exact V_iret hX dX5_setToSell_125 rfl rfl rfl
    · exact absurd E64 c26
  have lp := V_for (fun k => [some (.ref (A 0)), some (.int (nI p)), some (.int v), some (.int (clC (σ 5) (nI p) M)), some (.int (sdC (σ 5) M p v (clC (σ 5) (nI p) M) k).1), some (.int (sdC (σ 5) M p v (clC (σ 5) (nI p) M) k).2.1), some (.int (sdC (σ 5) M p v (clC (σ 5) (nI p) M) k).2.2), some (.int (nI k)), none, none]) (fun k => cW A tc σ) (64) lpS lpE
  refine V_ald0 dX5_setToSell_0 ?_
  refine V_get lf_X5_20 dX5_setToSell_1 cW_main rfl ?_
  refine V_ild1 dX5_setToSell_4 ?_
  refine V_callV lm_X5_121 (ok_closedOf now5 hM h6 _) dX5_setToSell_5 (cW_mkt now5) rfl (dep hX (by decide)) rfl (Nat.le_of_ble_eq_true rfl) ?_
  refine V_ist3 dX5_setToSell_8 rfl (by decide) ?_
  refine V_bipush (-9) dX5_setToSell_9 (by decide) ?_
  refine V_ist4 dX5_setToSell_11 rfl (by decide) ?_
  refine V_iconst 0 dX5_setToSell_13 (by decide) ?_
  refine V_ist5 dX5_setToSell_14 rfl (by decide) ?_
  refine V_iconst 0 dX5_setToSell_16 (by decide) ?_
  refine V_ist6 dX5_setToSell_17 rfl (by decide) ?_
  refine V_iconst 0 dX5_setToSell_19 (by decide) ?_
  refine V_ist7 dX5_setToSell_20 rfl (by decide) ?_
  exact lp 0 (Nat.zero_le _)
end
