/-! the reference: joy, prices, sets, exchanges, readings -/
def isM (τ : Sm) (s : Int32) (k : Nat) (t : Int32) : Int32 := if bitI s (nI k) then frM τ k t else 0
def jbS (τ : Sm) (s t : Int32) : Nat → Int32
  | 0 => 0
  | k + 1 => jbS τ s t k + isM τ s k t / 2
def jbF (τ : Sm) (s t : Int32) : Nat → Int32
  | 0 => 0
  | k + 1 => if isM τ s k t ≤ jbF τ s t k then jbF τ s t k else isM τ s k t
def joM (τ : Sm) (s t b : Int32) (M : Nat) : Int32 := if b = 0 then jbS τ s t M + jbF τ s t M - jbF τ s t M / 2 else jbS τ s t M
def feM (τ : Sm) (p : Nat) (s : Int32) (M : Nat) : Int32 := joM τ s (τ 8 0) (τ 11 p) M
def psM (τ : Sm) (s : Int32) : Nat → Int32
  | 0 => 0
  | k + 1 => psM τ s k + (if bitI s (nI k) then prM τ k else 0)
abbrev chM (τ : Sm) (M : Nat) (a b : Int32) : Prop := psM τ a M < psM τ b M ∨ (psM τ a M = psM τ b M ∧ ¬ szM b ≤ szM a)
def otM (τ : Sm) (M : Nat) (p : Int32) : Nat → Int32
  | 0 => 0
  | q + 1 => otM τ M p q ||| (if nI q = p then 0 else owM τ (nI q) M)
def bbM (τ : Sm) (M p : Nat) (v ot : Int32) : Nat → Int32
  | 0 => -9
  | k + 1 => if nI k &&& (ot ^^^ (-1)) = 0 ∧ ¬ τ 9 p < psM τ (nI k) M ∧ ¬ feM τ p (owM τ (nI p) M ||| nI k) M < v ∧ (bbM τ M p v ot k = -9 ∨ chM τ M (nI k) (bbM τ M p v ot k)) then nI k else bbM τ M p v ot k
def dbM (τ : Sm) (M p : Nat) (v own : Int32) : Nat → Int32 × Int32
  | 0 => (-9, -9)
  | k + 1 => if nI k &&& (own ^^^ (-1)) = 0 ∧ ¬ psM τ (nI k) M < v ∧ ((dbM τ M p v own k).2 < feM τ p (own &&& (nI k ^^^ (-1))) M ∨ (feM τ p (own &&& (nI k ^^^ (-1))) M = (dbM τ M p v own k).2 ∧ ¬ szM (dbM τ M p v own k).1 ≤ szM (nI k))) then (nI k, feM τ p (own &&& (nI k ^^^ (-1))) M) else dbM τ M p v own k
theorem sh1 : ∀ M, M ≤ 6 → (1 : Int32) <<< (nI M &&& 31) = nI (2 ^ M) := by
  intro M h
  rcases (show M = 0 ∨ M = 1 ∨ M = 2 ∨ M = 3 ∨ M = 4 ∨ M = 5 ∨ M = 6 by omega) with rfl | rfl | rfl | rfl | rfl | rfl | rfl <;> decide
theorem p64 {M : Nat} (h : M ≤ 6) : 2 ^ M ≤ 64 := Nat.le_trans (Nat.pow_le_pow_right (by decide) h) (by decide)
def gbM (τ : Sm) (M a b q r : Nat) : Int32 := if feM τ q (owM τ (nI q) M ^^^ (oneI a ||| oneI b)) M - feM τ q (owM τ (nI q) M) M < 0 ∨ ¬ 0 ≤ feM τ r (owM τ (nI r) M ^^^ (oneI a ||| oneI b)) M - feM τ r (owM τ (nI r) M) M then -9 else
  (feM τ q (owM τ (nI q) M ^^^ (oneI a ||| oneI b)) M - feM τ q (owM τ (nI q) M) M) + (feM τ r (owM τ (nI r) M ^^^ (oneI a ||| oneI b)) M - feM τ r (owM τ (nI r) M) M)
def gyM (τ : Sm) (M a b : Nat) : Int32 := if ¬ τ 16 a = 0 ∨ ¬ τ 16 b = 0 ∨ τ 13 a = τ 13 b then -9 else gbM τ M a b (τ 13 a).toNatClampNeg (τ 13 b).toNatClampNeg
def fsI (τ : Sm) (M a : Nat) (t0 : T3) : Nat → T3
  | 0 => t0
  | k + 1 => if gyM τ M a (a + 1 + k) ≤ (fsI τ M a t0 k).1 then fsI τ M a t0 k else (gyM τ M a (a + 1 + k), nI a, nI (a + 1 + k))
def fsO (τ : Sm) (M : Nat) : Nat → T3
  | 0 => (0, -9, -9)
  | a + 1 => fsI τ M a (fsO τ M a) (M - (a + 1))
def fwS (τ : Sm) (t : T3) : Sm := um (um τ 31 0 t.2.1) 32 0 t.2.2
theorem jbS_fw {τ : Sm} {t : T3} {s d : Int32} : ∀ M, jbS (fwS τ t) s d M = jbS τ s d M := by
  intro M
  induction M with
  | zero => rfl
  | succ M ih => show jbS (fwS τ t) s d M + _ = _; rw [ih]; rfl
theorem jbF_fw {τ : Sm} {t : T3} {s d : Int32} : ∀ M, jbF (fwS τ t) s d M = jbF τ s d M := by
  intro M
  induction M with
  | zero => rfl
  | succ M ih => show (if isM (fwS τ t) s M d ≤ jbF (fwS τ t) s d M then jbF (fwS τ t) s d M else isM (fwS τ t) s M d) = _; rw [ih]; rfl
theorem owM_fw {τ : Sm} {t : T3} {p : Int32} : ∀ M, owM (fwS τ t) p M = owM τ p M := by
  intro M
  induction M with
  | zero => rfl
  | succ M ih => show owM (fwS τ t) p M ||| _ = _; rw [ih]; rfl
theorem feM_fw {τ : Sm} {t : T3} {p : Nat} {s : Int32} {M : Nat} : feM (fwS τ t) p s M = feM τ p s M := by
  unfold feM joM
  rw [jbS_fw, jbF_fw]
  rfl
theorem gb_fw {τ : Sm} {t : T3} {M a b q r : Nat} : gbM (fwS τ t) M a b q r = gbM τ M a b q r := by
  unfold gbM
  simp only [feM_fw, owM_fw]
def asM (τ : Sm) (C : Nat) : Prop := ∀ r, r < C → frM τ (τ 34 r).toNatClampNeg (τ 35 r) = τ 36 r
def rxM (τ : Sm) (C : Nat) (m t v : Int32) : Sm := um (um (um (um τ 34 C m) 35 C t) 36 C v) 33 0 (τ 33 0 + 1)
abbrev asA (τ : Sm) (C : Nat) : Prop := ∀ r, r < C → frM τ (τ 34 r).toNatClampNeg (τ 35 r) = τ 36 r
def vxM (τ : Sm) (f m C : Nat) : Nat → Int32
  | 0 => 0
  | k + 1 => vxM τ f m C k ||| (if asA (um τ f m (nI k)) C then oneI k else 0)
def vxW (τ : Sm) (f m : Nat) : Nat → Sm
  | 0 => τ
  | k + 1 => um τ f m (nI k)
theorem um_um (τ : Sm) (k i : Nat) (a b : Int32) : um (um τ k i a) k i b = um τ k i b := by
  funext k' i'
  unfold um
  by_cases h2 : k' = k <;> by_cases h3 : i' = i <;> simp [h2, h3]
theorem vxW_s (τ : Sm) (f m k : Nat) (v : Int32) : um (vxW τ f m k) f m v = um τ f m v := by
  cases k with
  | zero => rfl
  | succ k => exact um_um τ f m _ _
theorem fw_2 (τ : Sm) (t : T3) (a b : Int32) (x : Int32) : um (um (fwS τ t) 31 0 a) 32 0 b = fwS τ (x, a, b) := by
  funext k' i'
  unfold fwS um
  by_cases h1 : k' = 31 <;> by_cases h2 : k' = 32 <;> by_cases h3 : i' = 0 <;> simp [h1, h2, h3]
def Rm_feast (τ : Sm) (M : Nat) (p : Int32) : Int32 := if isP (τ 5 0) p then feM τ p.toNatClampNeg (owM τ p M) M else -1
def buM (τ : Sm) (P M : Nat) (p v : Int32) : Int32 := bbM τ M p.toNatClampNeg v (otM τ M p P) (2 ^ M)
def Rm_buy (τ : Sm) (P M : Nat) (p v w : Int32) : Int32 := if isP (τ 5 0) p then (if wiI v 0 99 ∧ wiI w 0 1 then (if w = 1 ∨ buM τ P M p v = -9 then buM τ P M p v else psM τ (buM τ P M p v) M) else -2) else -1
def Rm_debt (τ : Sm) (M : Nat) (p v w : Int32) : Int32 := if isP (τ 5 0) p then (if wiI v 0 999 ∧ wiI w 0 1 then (if w = 0 then (dbM τ M p.toNatClampNeg v (owM τ p M) (2 ^ M)).2 else (dbM τ M p.toNatClampNeg v (owM τ p M) (2 ^ M)).1) else -2) else -1
def Rm_swap (τ : Sm) (M : Nat) (w : Int32) : Int32 := if wiI w 0 2 then (if τ 5 0 = 0 then -3 else if w = 0 then (if (fsO τ M M).1 = 0 then -9 else (fsO τ M M).1) else if w = 1 then (fsO τ M M).2.1 else (fsO τ M M).2.2) else -2
def Sm_swap (τ : Sm) (M : Nat) (w : Int32) : Sm := if wiI w 0 2 then (if τ 5 0 = 0 then τ else fwS τ (fsO τ M M)) else τ
def Rm_reading (τ : Sm) (m t v : Int32) : Int32 := if isP (τ 6 0) m then (if wiI t 0 99 ∧ wiI v 0 9 then (if τ 33 0 = 8 then -4 else τ 33 0) else -2) else -1
def Sm_reading (τ : Sm) (m t v : Int32) : Sm := if isP (τ 6 0) m then (if wiI t 0 99 ∧ wiI v 0 9 then (if τ 33 0 = 8 then τ else rxM τ (τ 33 0).toNatClampNeg m t v) else τ) else τ
def Rm_back (τ : Sm) (k : Int32) : Int32 := if wiI k 0 (τ 33 0) then τ 33 0 - k else -2
def Sm_back (τ : Sm) (k : Int32) : Sm := if wiI k 0 (τ 33 0) then um τ 33 0 (τ 33 0 - k) else τ
def Rm_dews (τ : Sm) (C : Nat) (m : Int32) : Int32 := if isP (τ 6 0) m then vxM τ 15 m.toNatClampNeg C 10 else -1
def Rm_kinds (τ : Sm) (C : Nat) (m : Int32) : Int32 := if isP (τ 6 0) m then vxM τ 12 m.toNatClampNeg C 3 else -1
def Rm_takens (τ : Sm) (C : Nat) (m : Int32) : Int32 := if isP (τ 6 0) m then vxM τ 14 m.toNatClampNeg C 10 else -1
def bgM (τ : Sm) (b : Int32) : Sm := um τ 1 0 (31 * τ 1 0 + b)
def Rm_tell (τ : Sm) (m : Int32) : Int32 := if isP (τ 6 0) m then (if τ 12 m.toNatClampNeg = 1 then τ 15 m.toNatClampNeg + 100 else if τ 12 m.toNatClampNeg = 2 then 2 * τ 15 m.toNatClampNeg + 100 else τ 15 m.toNatClampNeg) else -1
def Sm_tell (τ : Sm) (m : Int32) : Sm := if isP (τ 6 0) m then (if τ 12 m.toNatClampNeg = 1 then bgM (bgM τ 2) 1 else if τ 12 m.toNatClampNeg = 2 then bgM (bgM (bgM (bgM τ 3) 2) 1) 1 else bgM τ 1) else τ
def Rm_crow (τ : Sm) (m : Int32) : Int32 := if isP (τ 6 0) m then (if τ 12 m.toNatClampNeg = 2 then 70 else m) else -1
def Sm_crow (τ : Sm) (m : Int32) : Sm := if isP (τ 6 0) m then (if τ 12 m.toNatClampNeg = 2 then bgM τ 5 else bgM τ 4) else τ
def Rm_as (τ : Sm) (m k : Int32) : Int32 := if isP (τ 6 0) m then (if wiI k 0 2 then (if τ 12 m.toNatClampNeg < k then -12 else 1) else -2) else -1
def Sm_as (τ : Sm) (m k : Int32) : Sm := if isP (τ 6 0) m then (if wiI k 0 2 then (if τ 12 m.toNatClampNeg < k then um τ 0 0 2 else τ) else τ) else τ
def Rm_many (τ : Sm) (w : Int32) : Int32 := sel5 w (τ 6 0) (τ 5 0) (τ 8 0) (τ 7 0) (τ 33 0) (-2)
theorem add_sub1 (x : Int32) : x + 1 - 1 = x := by rw [Int32.sub_eq_add_neg, Int32.add_assoc]; exact Int32.add_zero x
section
variable {D : va_G} {tc : Tc} {B : Nat → Nat} {τ : Sm} {M P C : Nat} {ws : va_W}
set_option maxRecDepth 100000 in
set_option maxHeartbeats 4000000 in
theorem mk_joyBy (hM : τ 6 0 = nI M) (h6 : M ≤ 6) (s t b : Int32) : Ok 1 yX6_joyBy cX6_joyBy 8 (some .int) D tc [.ref (B 0), .int s, .int t, .int b] (mW B tc τ) (some (.int (joM τ s t b M))) (mW B tc τ) := by
  refine Ok_of RX6 rfl (by decide) [some (.ref (B 0)), some (.int s), some (.int t), some (.int b), none, none, none, none] rfl (Nat.le_of_ble_eq_true rfl) ?_
  intro X hX
  have lpS : ∀ k, k < M → V X D tc cX6_joyBy RX6 8 9 ((fun k => [some (.ref (B 0)), some (.int s), some (.int t), some (.int b), some (.int (jbS τ s t k)), some (.int (jbF τ s t k)), some (.int (nI k)), none]) (k + 1)) [] ((fun k => mW B tc τ) (k + 1)) → V X D tc cX6_joyBy RX6 8 9 ((fun k => [some (.ref (B 0)), some (.int s), some (.int t), some (.int b), some (.int (jbS τ s t k)), some (.int (jbF τ s t k)), some (.int (nI k)), none]) k) [] ((fun k => mW B tc τ) k) := by
    intro k hk ihlp
    refine V_ild6 dX6_joyBy_9 ?_
    refine V_ald0 dX6_joyBy_11 ?_
    refine V_get lf_X6_93 dX6_joyBy_12 mW_obj rfl ?_
    refine V_icmp_ge 72 dX6_joyBy_15 (by decide) (fun c15 => ?_) (fun c15 => ?_)
    · exact absurd c15 (ge_no hM hk (by omega))
    · refine V_ild1 dX6_joyBy_18 ?_
      refine V_ild6 dX6_joyBy_19 ?_
      refine V_ishr dX6_joyBy_21 ?_
      refine V_iconst 1 dX6_joyBy_22 (by decide) ?_
      refine V_iand dX6_joyBy_23 ?_
      refine V_iconst 1 dX6_joyBy_24 (by decide) ?_
      refine V_icmp_ne 38 dX6_joyBy_25 (by decide) (fun c25 => ?_) (fun c25 => ?_)
      · refine V_iconst 0 dX6_joyBy_38 (by decide) ?_
        refine V_top (y := isM τ s k t) (by rw [isM]; first | rw [if_pos c25] | rw [if_neg c25]) ?_
        refine V_ist7 dX6_joyBy_39 rfl (by decide) ?_
        refine V_ild4 dX6_joyBy_41 ?_
        refine V_ild7 dX6_joyBy_43 ?_
        refine V_iconst 2 dX6_joyBy_45 (by decide) ?_
        refine V_idiv dX6_joyBy_46 (by decide) ?_
        refine V_iadd dX6_joyBy_47 ?_
        refine V_ist4 dX6_joyBy_48 rfl (by decide) ?_
        refine V_ild7 dX6_joyBy_50 ?_
        refine V_ild5 dX6_joyBy_52 ?_
        refine V_icmp_le 62 dX6_joyBy_54 (by decide) (fun c54 => ?_) (fun c54 => ?_)
        · refine V_ild5 dX6_joyBy_62 ?_
          refine V_ist5 dX6_joyBy_64 rfl (by decide) ?_
          refine V_inc6 (nI (k + 1)) dX6_joyBy_66 (nI_inc k) rfl (by decide) ?_
          refine V_goto 9 dX6_joyBy_69 (by decide) ?_
          refine V_dr7 ?_
          refine V_eq ?_ rfl rfl ihlp
          simp only [jbS, jbF]
          first | rw [if_pos c54] | rw [if_neg c54]
        · refine V_ild7 dX6_joyBy_57 ?_
          refine V_goto 64 dX6_joyBy_59 (by decide) ?_
          refine V_ist5 dX6_joyBy_64 rfl (by decide) ?_
          refine V_inc6 (nI (k + 1)) dX6_joyBy_66 (nI_inc k) rfl (by decide) ?_
          refine V_goto 9 dX6_joyBy_69 (by decide) ?_
          refine V_dr7 ?_
          refine V_eq ?_ rfl rfl ihlp
          simp only [jbS, jbF]
          first | rw [if_pos c54] | rw [if_neg c54]
      · refine V_ald0 dX6_joyBy_28 ?_
        refine V_ild6 dX6_joyBy_29 ?_
        refine V_ild2 dX6_joyBy_31 ?_
        refine V_callV lm_X6_152 (mk_freshOn k (by omega) _) dX6_joyBy_32 mW_obj rfl (dep hX (by decide)) rfl (Nat.le_of_ble_eq_true rfl) ?_
        refine V_goto 39 dX6_joyBy_35 (by decide) ?_
        refine V_top (y := isM τ s k t) (by rw [isM]; first | rw [if_pos c25] | rw [if_neg c25]) ?_
        refine V_ist7 dX6_joyBy_39 rfl (by decide) ?_
        refine V_ild4 dX6_joyBy_41 ?_
        refine V_ild7 dX6_joyBy_43 ?_
        refine V_iconst 2 dX6_joyBy_45 (by decide) ?_
        refine V_idiv dX6_joyBy_46 (by decide) ?_
        refine V_iadd dX6_joyBy_47 ?_
        refine V_ist4 dX6_joyBy_48 rfl (by decide) ?_
        refine V_ild7 dX6_joyBy_50 ?_
        refine V_ild5 dX6_joyBy_52 ?_
        refine V_icmp_le 62 dX6_joyBy_54 (by decide) (fun c54 => ?_) (fun c54 => ?_)
        · refine V_ild5 dX6_joyBy_62 ?_
          refine V_ist5 dX6_joyBy_64 rfl (by decide) ?_
          refine V_inc6 (nI (k + 1)) dX6_joyBy_66 (nI_inc k) rfl (by decide) ?_
          refine V_goto 9 dX6_joyBy_69 (by decide) ?_
          refine V_dr7 ?_
          refine V_eq ?_ rfl rfl ihlp
          simp only [jbS, jbF]
          first | rw [if_pos c54] | rw [if_neg c54]
        · refine V_ild7 dX6_joyBy_57 ?_
          refine V_goto 64 dX6_joyBy_59 (by decide) ?_
          refine V_ist5 dX6_joyBy_64 rfl (by decide) ?_
          refine V_inc6 (nI (k + 1)) dX6_joyBy_66 (nI_inc k) rfl (by decide) ?_
          refine V_goto 9 dX6_joyBy_69 (by decide) ?_
          refine V_dr7 ?_
          refine V_eq ?_ rfl rfl ihlp
          simp only [jbS, jbF]
          first | rw [if_pos c54] | rw [if_neg c54]
  have lpE : V X D tc cX6_joyBy RX6 8 9 ((fun k => [some (.ref (B 0)), some (.int s), some (.int t), some (.int b), some (.int (jbS τ s t k)), some (.int (jbF τ s t k)), some (.int (nI k)), none]) (M)) [] ((fun k => mW B tc τ) (M)) := by
    refine V_ild6 dX6_joyBy_9 ?_
    refine V_ald0 dX6_joyBy_11 ?_
    refine V_get lf_X6_93 dX6_joyBy_12 mW_obj rfl ?_
    refine V_icmp_ge 72 dX6_joyBy_15 (by decide) (fun c15 => ?_) (fun c15 => ?_)
    · refine V_ild3 dX6_joyBy_72 ?_
      refine V_if_eq 81 dX6_joyBy_73 (by decide) (fun c73 => ?_) (fun c73 => ?_)
      · refine V_ild4 dX6_joyBy_81 ?_
        refine V_ild5 dX6_joyBy_83 ?_
        refine V_iadd dX6_joyBy_85 ?_
        refine V_ild5 dX6_joyBy_86 ?_
        refine V_iconst 2 dX6_joyBy_88 (by decide) ?_
        refine V_idiv dX6_joyBy_89 (by decide) ?_
        refine V_isub dX6_joyBy_90 ?_
        exact V_iret hX dX6_joyBy_91 rfl (by rw [joM]; first | rw [if_pos c73] | rw [if_neg c73]) rfl
      · refine V_ild4 dX6_joyBy_76 ?_
        refine V_goto 91 dX6_joyBy_78 (by decide) ?_
        exact V_iret hX dX6_joyBy_91 rfl (by rw [joM]; first | rw [if_pos c73] | rw [if_neg c73]) rfl
    · exact absurd (ge_yes hM) c15
  have lp := V_for (fun k => [some (.ref (B 0)), some (.int s), some (.int t), some (.int b), some (.int (jbS τ s t k)), some (.int (jbF τ s t k)), some (.int (nI k)), none]) (fun k => mW B tc τ) (M) lpS lpE
  refine V_iconst 0 dX6_joyBy_0 (by decide) ?_
  refine V_ist4 dX6_joyBy_1 rfl (by decide) ?_
  refine V_iconst 0 dX6_joyBy_3 (by decide) ?_
  refine V_ist5 dX6_joyBy_4 rfl (by decide) ?_
  refine V_iconst 0 dX6_joyBy_6 (by decide) ?_
  refine V_ist6 dX6_joyBy_7 rfl (by decide) ?_
  exact lp 0 (Nat.zero_le _)
set_option maxRecDepth 100000 in
set_option maxHeartbeats 4000000 in
theorem mk_feastBy (hM : τ 6 0 = nI M) (h6 : M ≤ 6) (p : Nat) (hp : p < 4) (s : Int32) : Ok 2 yX6_feastBy cX6_feastBy 3 (some .int) D tc [.ref (B 0), .int (nI p), .int s] (mW B tc τ) (some (.int (feM τ p s M))) (mW B tc τ) := by
  refine Ok_of RX6 rfl (by decide) [some (.ref (B 0)), some (.int (nI p)), some (.int s)] rfl (Nat.le_of_ble_eq_true rfl) ?_
  intro X hX
  refine V_ald0 dX6_feastBy_0 ?_
  refine V_ild2 dX6_feastBy_1 ?_
  refine V_ald0 dX6_feastBy_2 ?_
  refine V_get lf_X6_129 dX6_feastBy_3 mW_obj rfl ?_
  refine V_ald0 dX6_feastBy_6 ?_
  refine V_get lf_X6_25 dX6_feastBy_7 mW_obj rfl ?_
  refine V_ild1 dX6_feastBy_10 ?_
  refine V_zaldk dX6_feastBy_11 mW_a11 ⟨hp, by decide⟩ ?_
  refine V_callV lm_X6_203 (mk_joyBy hM h6 _ _ _) dX6_feastBy_12 mW_obj rfl (dep hX (by decide)) rfl (Nat.le_of_ble_eq_true rfl) ?_
  exact V_iret hX dX6_feastBy_15 rfl rfl rfl
set_option maxRecDepth 100000 in
set_option maxHeartbeats 4000000 in
theorem mk_feast (hP : τ 5 0 = nI P) (h4 : P ≤ 4) (hM : τ 6 0 = nI M) (h6 : M ≤ 6) (p : Int32) : Ok 3 yX6_feast cX6_feast 2 (some .int) D tc [.ref (B 0), .int p] (mW B tc τ) (some (.int (Rm_feast τ M p))) (mW B tc τ) := by
  refine Ok_of RX6 rfl (by decide) [some (.ref (B 0)), some (.int p)] rfl (Nat.le_of_ble_eq_true rfl) ?_
  intro X hX
  refine V_ald0 dX6_feast_0 ?_
  refine V_ild1 dX6_feast_1 ?_
  refine V_callV lm_X6_159 (mk_isPerson _) dX6_feast_2 mW_obj rfl (dep hX (by decide)) rfl (Nat.le_of_ble_eq_true rfl) ?_
  refine V_if_eq 21 dX6_feast_5 (by decide) (fun c5 => ?_) (fun c5 => ?_)
  · try rw [b2i_eq] at c5
    try rw [Decidable.not_not] at c5
    refine V_iconst (-1) dX6_feast_21 (by decide) ?_
    exact V_iret hX dX6_feast_22 rfl (by (try first | replace c5 := eq_false c5 | replace c5 := eq_true c5); first | simp only [Rm_feast, hcj, c5, not_true_eq_false, not_false_eq_true, and_self, true_and, and_true, false_and, and_false, true_or, or_true, false_or, or_false, or_self, ↓reduceIte] | simp only [Rm_feast, c5, not_true_eq_false, not_false_eq_true, and_self, true_and, and_true, false_and, and_false, true_or, or_true, false_or, or_false, or_self, ↓reduceIte]) rfl
  · try rw [b2i_ne] at c5
    try rw [Decidable.not_not] at c5
    obtain ⟨j, hj, ej⟩ := isP_of hP (by omega) c5
    subst ej
    have hcj : (nI j).toNatClampNeg = j := nI_clamp (by omega)
    refine V_ald0 dX6_feast_8 ?_
    refine V_ild1 dX6_feast_9 ?_
    refine V_ald0 dX6_feast_10 ?_
    refine V_ild1 dX6_feast_11 ?_
    refine V_callV lm_X6_162 (mk_ownOf hM h6 _) dX6_feast_12 mW_obj rfl (dep hX (by decide)) rfl (Nat.le_of_ble_eq_true rfl) ?_
    refine V_callV lm_X6_207 (mk_feastBy hM h6 j (by omega) _) dX6_feast_15 mW_obj rfl (dep hX (by decide)) rfl (Nat.le_of_ble_eq_true rfl) ?_
    refine V_goto 22 dX6_feast_18 (by decide) ?_
    exact V_iret hX dX6_feast_22 rfl (by (try first | replace c5 := eq_false c5 | replace c5 := eq_true c5); first | simp only [Rm_feast, hcj, c5, not_true_eq_false, not_false_eq_true, and_self, true_and, and_true, false_and, and_false, true_or, or_true, false_or, or_false, or_self, ↓reduceIte] | simp only [Rm_feast, c5, not_true_eq_false, not_false_eq_true, and_self, true_and, and_true, false_and, and_false, true_or, or_true, false_or, or_false, or_self, ↓reduceIte]) rfl
set_option maxRecDepth 100000 in
set_option maxHeartbeats 4000000 in
theorem mk_pricesOf (hM : τ 6 0 = nI M) (h6 : M ≤ 6) (s : Int32) : Ok 2 yX6_pricesOf cX6_pricesOf 4 (some .int) D tc [.ref (B 0), .int s] (mW B tc τ) (some (.int (psM τ s M))) (mW B tc τ) := by
  refine Ok_of RX6 rfl (by decide) [some (.ref (B 0)), some (.int s), none, none] rfl (Nat.le_of_ble_eq_true rfl) ?_
  intro X hX
  have lpS : ∀ k, k < M → V X D tc cX6_pricesOf RX6 4 4 ((fun k => [some (.ref (B 0)), some (.int s), some (.int (psM τ s k)), some (.int (nI k))]) (k + 1)) [] ((fun k => mW B tc τ) (k + 1)) → V X D tc cX6_pricesOf RX6 4 4 ((fun k => [some (.ref (B 0)), some (.int s), some (.int (psM τ s k)), some (.int (nI k))]) k) [] ((fun k => mW B tc τ) k) := by
    intro k hk ihlp
    refine V_ild3 dX6_pricesOf_4 ?_
    refine V_ald0 dX6_pricesOf_5 ?_
    refine V_get lf_X6_93 dX6_pricesOf_6 mW_obj rfl ?_
    refine V_icmp_ge 39 dX6_pricesOf_9 (by decide) (fun c9 => ?_) (fun c9 => ?_)
    · exact absurd c9 (ge_no hM hk (by omega))
    · refine V_ild2 dX6_pricesOf_12 ?_
      refine V_ild1 dX6_pricesOf_13 ?_
      refine V_ild3 dX6_pricesOf_14 ?_
      refine V_ishr dX6_pricesOf_15 ?_
      refine V_iconst 1 dX6_pricesOf_16 (by decide) ?_
      refine V_iand dX6_pricesOf_17 ?_
      refine V_iconst 1 dX6_pricesOf_18 (by decide) ?_
      refine V_icmp_ne 30 dX6_pricesOf_19 (by decide) (fun c19 => ?_) (fun c19 => ?_)
      · refine V_iconst 0 dX6_pricesOf_30 (by decide) ?_
        refine V_iadd dX6_pricesOf_31 ?_
        refine V_ist2 dX6_pricesOf_32 rfl (by decide) ?_
        refine V_inc3 (nI (k + 1)) dX6_pricesOf_33 (nI_inc k) rfl (by decide) ?_
        refine V_goto 4 dX6_pricesOf_36 (by decide) ?_
        refine V_eq ?_ rfl rfl ihlp
        simp only [psM]
        first | rw [if_pos c19] | rw [if_neg c19]
      · refine V_ald0 dX6_pricesOf_22 ?_
        refine V_ild3 dX6_pricesOf_23 ?_
        refine V_callV lm_X6_168 (mk_priceOf k (by omega)) dX6_pricesOf_24 mW_obj rfl (dep hX (by decide)) rfl (Nat.le_of_ble_eq_true rfl) ?_
        refine V_goto 31 dX6_pricesOf_27 (by decide) ?_
        refine V_iadd dX6_pricesOf_31 ?_
        refine V_ist2 dX6_pricesOf_32 rfl (by decide) ?_
        refine V_inc3 (nI (k + 1)) dX6_pricesOf_33 (nI_inc k) rfl (by decide) ?_
        refine V_goto 4 dX6_pricesOf_36 (by decide) ?_
        refine V_eq ?_ rfl rfl ihlp
        simp only [psM]
        first | rw [if_pos c19] | rw [if_neg c19]
  have lpE : V X D tc cX6_pricesOf RX6 4 4 ((fun k => [some (.ref (B 0)), some (.int s), some (.int (psM τ s k)), some (.int (nI k))]) (M)) [] ((fun k => mW B tc τ) (M)) := by
    refine V_ild3 dX6_pricesOf_4 ?_
    refine V_ald0 dX6_pricesOf_5 ?_
    refine V_get lf_X6_93 dX6_pricesOf_6 mW_obj rfl ?_
    refine V_icmp_ge 39 dX6_pricesOf_9 (by decide) (fun c9 => ?_) (fun c9 => ?_)
    · refine V_ild2 dX6_pricesOf_39 ?_
      exact V_iret hX dX6_pricesOf_40 rfl rfl rfl
    · exact absurd (ge_yes hM) c9
  have lp := V_for (fun k => [some (.ref (B 0)), some (.int s), some (.int (psM τ s k)), some (.int (nI k))]) (fun k => mW B tc τ) (M) lpS lpE
  refine V_iconst 0 dX6_pricesOf_0 (by decide) ?_
  refine V_ist2 dX6_pricesOf_1 rfl (by decide) ?_
  refine V_iconst 0 dX6_pricesOf_2 (by decide) ?_
  refine V_ist3 dX6_pricesOf_3 rfl (by decide) ?_
  exact lp 0 (Nat.zero_le _)
set_option maxRecDepth 100000 in
set_option maxHeartbeats 4000000 in
theorem mk_isCheaper (hM : τ 6 0 = nI M) (h6 : M ≤ 6) (a b : Int32) : Ok 3 yX6_isCheaper cX6_isCheaper 3 (some .boolean) D tc [.ref (B 0), .int a, .int b] (mW B tc τ) (some (.int (b2i (chM τ M a b)))) (mW B tc τ) := by
  refine Ok_of RX6 rfl (by decide) [some (.ref (B 0)), some (.int a), some (.int b)] rfl (Nat.le_of_ble_eq_true rfl) ?_
  intro X hX
  refine V_ald0 dX6_isCheaper_0 ?_
  refine V_ild1 dX6_isCheaper_1 ?_
  refine V_callV lm_X6_216 (mk_pricesOf hM h6 _) dX6_isCheaper_2 mW_obj rfl (dep hX (by decide)) rfl (Nat.le_of_ble_eq_true rfl) ?_
  refine V_ald0 dX6_isCheaper_5 ?_
  refine V_ild2 dX6_isCheaper_6 ?_
  refine V_callV lm_X6_216 (mk_pricesOf hM h6 _) dX6_isCheaper_7 mW_obj rfl (dep hX (by decide)) rfl (Nat.le_of_ble_eq_true rfl) ?_
  refine V_icmp_lt 37 dX6_isCheaper_10 (by decide) (fun c10 => ?_) (fun c10 => ?_)
  · have ht : chM τ M a b := Or.inl c10
    refine V_iconst 1 dX6_isCheaper_37 (by decide) ?_
    refine V_goto 42 dX6_isCheaper_38 (by decide) ?_
    exact V_zret hX dX6_isCheaper_42 rfl (by first | exact Or.inl rfl | exact Or.inr rfl) (by first | rw [b2i_f hf] | rw [b2i_t ht]) rfl
  · refine V_ald0 dX6_isCheaper_13 ?_
    refine V_ild1 dX6_isCheaper_14 ?_
    refine V_callV lm_X6_216 (mk_pricesOf hM h6 _) dX6_isCheaper_15 mW_obj rfl (dep hX (by decide)) rfl (Nat.le_of_ble_eq_true rfl) ?_
    refine V_ald0 dX6_isCheaper_18 ?_
    refine V_ild2 dX6_isCheaper_19 ?_
    refine V_callV lm_X6_216 (mk_pricesOf hM h6 _) dX6_isCheaper_20 mW_obj rfl (dep hX (by decide)) rfl (Nat.le_of_ble_eq_true rfl) ?_
    refine V_icmp_ne 41 dX6_isCheaper_23 (by decide) (fun c23 => ?_) (fun c23 => ?_)
    · have hf : ¬ chM τ M a b := fun h => h.elim c10 (fun h => c23 h.1)
      refine V_iconst 0 dX6_isCheaper_41 (by decide) ?_
      exact V_zret hX dX6_isCheaper_42 rfl (by first | exact Or.inl rfl | exact Or.inr rfl) (by first | rw [b2i_f hf] | rw [b2i_t ht]) rfl
    · refine V_ild1 dX6_isCheaper_26 ?_
      refine V_callS ls_X6_165 (mk_size _) dX6_isCheaper_27 (dep hX (by decide)) rfl (Nat.le_of_ble_eq_true rfl) ?_
      refine V_ild2 dX6_isCheaper_30 ?_
      refine V_callS ls_X6_165 (mk_size _) dX6_isCheaper_31 (dep hX (by decide)) rfl (Nat.le_of_ble_eq_true rfl) ?_
      refine V_icmp_ge 41 dX6_isCheaper_34 (by decide) (fun c34 => ?_) (fun c34 => ?_)
      · have hf : ¬ chM τ M a b := fun h => h.elim c10 (fun h => h.2 c34)
        refine V_iconst 0 dX6_isCheaper_41 (by decide) ?_
        exact V_zret hX dX6_isCheaper_42 rfl (by first | exact Or.inl rfl | exact Or.inr rfl) (by first | rw [b2i_f hf] | rw [b2i_t ht]) rfl
      · have ht : chM τ M a b := Or.inr ⟨c23, c34⟩
        refine V_iconst 1 dX6_isCheaper_37 (by decide) ?_
        refine V_goto 42 dX6_isCheaper_38 (by decide) ?_
        exact V_zret hX dX6_isCheaper_42 rfl (by first | exact Or.inl rfl | exact Or.inr rfl) (by first | rw [b2i_f hf] | rw [b2i_t ht]) rfl
set_option maxRecDepth 100000 in
set_option maxHeartbeats 4000000 in
theorem lo_buyM (hP : τ 5 0 = nI P) (h4 : P ≤ 4) (hM : τ 6 0 = nI M) (h6 : M ≤ 6) {X : Cx} {p : Nat} (hp : p < 4) {v w R : Int32} (hR : (if w = 1 ∨ bbM τ M p v (otM τ M (nI p) P) (2 ^ M) = -9 then bbM τ M p v (otM τ M (nI p) P) (2 ^ M) else psM τ (bbM τ M p v (otM τ M (nI p) P) (2 ^ M)) M) = R) (hX : Aim X D (some .int) 4 (some (.int R)) (mW B tc τ)) : V X D tc cX6_buy RX6 8 38 [some (.ref (B 0)), some (.int (nI p)), some (.int v), some (.int w), some (.int 0), some (.int 0), none, none] [] (mW B tc τ) := by
  have hp6 := p64 h6
  have l2S : ∀ k, k < (2 ^ M) → V X D tc cX6_buy RX6 8 81 ((fun k => [some (.ref (B 0)), some (.int (nI p)), some (.int v), some (.int w), some (.int (otM τ M (nI p) P)), some (.int (bbM τ M p v (otM τ M (nI p) P) k)), some (.int (nI k)), none]) (k + 1)) [] ((fun k => mW B tc τ) (k + 1)) → V X D tc cX6_buy RX6 8 81 ((fun k => [some (.ref (B 0)), some (.int (nI p)), some (.int v), some (.int w), some (.int (otM τ M (nI p) P)), some (.int (bbM τ M p v (otM τ M (nI p) P) k)), some (.int (nI k)), none]) k) [] ((fun k => mW B tc τ) k) := by
    intro k hk ihl2
    refine V_ild6 dX6_buy_81 ?_
    refine V_iconst 1 dX6_buy_83 (by decide) ?_
    refine V_ald0 dX6_buy_84 ?_
    refine V_get lf_X6_93 dX6_buy_85 mW_obj rfl ?_
    refine V_ishl dX6_buy_88 ?_
    refine V_top (y := nI (2 ^ M)) (by rw [hM]; exact sh1 M h6) ?_
    refine V_icmp_ge 174 dX6_buy_89 (by decide) (fun c89 => ?_) (fun c89 => ?_)
    · exact absurd c89 (nI_ge hk (by omega))
    · refine V_ild6 dX6_buy_92 ?_
      refine V_ild4 dX6_buy_94 ?_
      refine V_iconst (-1) dX6_buy_96 (by decide) ?_
      refine V_ixor dX6_buy_97 ?_
      refine V_iand dX6_buy_98 ?_
      refine V_if_ne 138 dX6_buy_99 (by decide) (fun c99 => ?_) (fun c99 => ?_)
      · refine V_iconst 0 dX6_buy_138 (by decide) ?_
        refine V_ist7 dX6_buy_139 rfl (by decide) ?_
        refine V_ild7 dX6_buy_141 ?_
        refine V_if_eq 168 dX6_buy_143 (by decide) (fun c143 => ?_) (fun c143 => ?_)
        · refine V_inc6 (nI (k + 1)) dX6_buy_168 (nI_inc k) rfl (by decide) ?_
          refine V_goto 81 dX6_buy_171 (by decide) ?_
          refine V_dr7 ?_
          refine V_eq ?_ rfl rfl ihl2
          (try first | replace c89 := eq_false c89 | replace c89 := eq_true c89); (try first | replace c99 := eq_false c99 | replace c99 := eq_true c99); (try first | replace c143 := eq_false c143 | replace c143 := eq_true c143);
          simp only [bbM, c89, c99, c143, not_true_eq_false, not_false_eq_true, and_self, true_and, and_true, false_and, and_false, true_or, or_true, false_or, or_false, or_self, ↓reduceIte]
        · first | exact absurd c143 (by decide) | exact absurd (by decide) c143
      · refine V_ald0 dX6_buy_102 ?_
        refine V_ild6 dX6_buy_103 ?_
        refine V_callV lm_X6_216 (mk_pricesOf hM h6 _) dX6_buy_105 mW_obj rfl (dep hX (by decide)) rfl (Nat.le_of_ble_eq_true rfl) ?_
        refine V_ald0 dX6_buy_108 ?_
        refine V_get lf_X6_19 dX6_buy_109 mW_obj rfl ?_
        refine V_ild1 dX6_buy_112 ?_
        refine V_ialdk dX6_buy_113 mW_a9 ⟨hp, by decide⟩ ?_
        refine V_icmp_gt 138 dX6_buy_114 (by decide) (fun c114 => ?_) (fun c114 => ?_)
        · refine V_iconst 0 dX6_buy_138 (by decide) ?_
          refine V_ist7 dX6_buy_139 rfl (by decide) ?_
          refine V_ild7 dX6_buy_141 ?_
          refine V_if_eq 168 dX6_buy_143 (by decide) (fun c143 => ?_) (fun c143 => ?_)
          · refine V_inc6 (nI (k + 1)) dX6_buy_168 (nI_inc k) rfl (by decide) ?_
            refine V_goto 81 dX6_buy_171 (by decide) ?_
            refine V_dr7 ?_
            refine V_eq ?_ rfl rfl ihl2
            (try first | replace c89 := eq_false c89 | replace c89 := eq_true c89); (try first | replace c99 := eq_false c99 | replace c99 := eq_true c99); (try first | replace c114 := eq_false c114 | replace c114 := eq_true c114); (try first | replace c143 := eq_false c143 | replace c143 := eq_true c143);
            simp only [bbM, c89, c99, c114, c143, not_true_eq_false, not_false_eq_true, and_self, true_and, and_true, false_and, and_false, true_or, or_true, false_or, or_false, or_self, ↓reduceIte]
          · first | exact absurd c143 (by decide) | exact absurd (by decide) c143
        · refine V_ald0 dX6_buy_117 ?_
          refine V_ild1 dX6_buy_118 ?_
          refine V_ald0 dX6_buy_119 ?_
          refine V_ild1 dX6_buy_120 ?_
          refine V_callV lm_X6_162 (mk_ownOf hM h6 _) dX6_buy_121 mW_obj rfl (dep hX (by decide)) rfl (Nat.le_of_ble_eq_true rfl) ?_
          refine V_ild6 dX6_buy_124 ?_
          refine V_ior dX6_buy_126 ?_
          refine V_callV lm_X6_207 (mk_feastBy hM h6 p hp _) dX6_buy_127 mW_obj rfl (dep hX (by decide)) rfl (Nat.le_of_ble_eq_true rfl) ?_
          refine V_ild2 dX6_buy_130 ?_
          refine V_icmp_lt 138 dX6_buy_131 (by decide) (fun c131 => ?_) (fun c131 => ?_)
          · refine V_iconst 0 dX6_buy_138 (by decide) ?_
            refine V_ist7 dX6_buy_139 rfl (by decide) ?_
            refine V_ild7 dX6_buy_141 ?_
            refine V_if_eq 168 dX6_buy_143 (by decide) (fun c143 => ?_) (fun c143 => ?_)
            · refine V_inc6 (nI (k + 1)) dX6_buy_168 (nI_inc k) rfl (by decide) ?_
              refine V_goto 81 dX6_buy_171 (by decide) ?_
              refine V_dr7 ?_
              refine V_eq ?_ rfl rfl ihl2
              (try first | replace c89 := eq_false c89 | replace c89 := eq_true c89); (try first | replace c99 := eq_false c99 | replace c99 := eq_true c99); (try first | replace c114 := eq_false c114 | replace c114 := eq_true c114); (try first | replace c131 := eq_false c131 | replace c131 := eq_true c131); (try first | replace c143 := eq_false c143 | replace c143 := eq_true c143);
              simp only [bbM, c89, c99, c114, c131, c143, not_true_eq_false, not_false_eq_true, and_self, true_and, and_true, false_and, and_false, true_or, or_true, false_or, or_false, or_self, ↓reduceIte]
            · first | exact absurd c143 (by decide) | exact absurd (by decide) c143
          · refine V_iconst 1 dX6_buy_134 (by decide) ?_
            refine V_goto 139 dX6_buy_135 (by decide) ?_
            refine V_ist7 dX6_buy_139 rfl (by decide) ?_
            refine V_ild7 dX6_buy_141 ?_
            refine V_if_eq 168 dX6_buy_143 (by decide) (fun c143 => ?_) (fun c143 => ?_)
            · first | exact absurd c143 (by decide) | exact absurd (by decide) c143
            · refine V_ild5 dX6_buy_146 ?_
              refine V_bipush (-9) dX6_buy_148 (by decide) ?_
              refine V_icmp_eq 164 dX6_buy_150 (by decide) (fun c150 => ?_) (fun c150 => ?_)
              · refine V_ild6 dX6_buy_164 ?_
                refine V_ist5 dX6_buy_166 rfl (by decide) ?_
                refine V_inc6 (nI (k + 1)) dX6_buy_168 (nI_inc k) rfl (by decide) ?_
                refine V_goto 81 dX6_buy_171 (by decide) ?_
                refine V_dr7 ?_
                refine V_eq ?_ rfl rfl ihl2
                (try first | replace c89 := eq_false c89 | replace c89 := eq_true c89); (try first | replace c99 := eq_false c99 | replace c99 := eq_true c99); (try first | replace c114 := eq_false c114 | replace c114 := eq_true c114); (try first | replace c131 := eq_false c131 | replace c131 := eq_true c131); (try first | replace c143 := eq_false c143 | replace c143 := eq_true c143); (try first | replace c150 := eq_false c150 | replace c150 := eq_true c150);
                simp only [bbM, c89, c99, c114, c131, c143, c150, not_true_eq_false, not_false_eq_true, and_self, true_and, and_true, false_and, and_false, true_or, or_true, false_or, or_false, or_self, ↓reduceIte]
              · refine V_ald0 dX6_buy_153 ?_
                refine V_ild6 dX6_buy_154 ?_
                refine V_ild5 dX6_buy_156 ?_
                refine V_callV lm_X6_219 (mk_isCheaper hM h6 _ _) dX6_buy_158 mW_obj rfl (dep hX (by decide)) rfl (Nat.le_of_ble_eq_true rfl) ?_
                refine V_if_eq 168 dX6_buy_161 (by decide) (fun c161 => ?_) (fun c161 => ?_)
                · try rw [b2i_eq] at c161
                  try rw [Decidable.not_not] at c161
                  refine V_inc6 (nI (k + 1)) dX6_buy_168 (nI_inc k) rfl (by decide) ?_
                  refine V_goto 81 dX6_buy_171 (by decide) ?_
                  refine V_dr7 ?_
                  refine V_eq ?_ rfl rfl ihl2
                  (try first | replace c89 := eq_false c89 | replace c89 := eq_true c89); (try first | replace c99 := eq_false c99 | replace c99 := eq_true c99); (try first | replace c114 := eq_false c114 | replace c114 := eq_true c114); (try first | replace c131 := eq_false c131 | replace c131 := eq_true c131); (try first | replace c143 := eq_false c143 | replace c143 := eq_true c143); (try first | replace c150 := eq_false c150 | replace c150 := eq_true c150); (try first | replace c161 := eq_false c161 | replace c161 := eq_true c161);
                  simp only [bbM, c89, c99, c114, c131, c143, c150, c161, not_true_eq_false, not_false_eq_true, and_self, true_and, and_true, false_and, and_false, true_or, or_true, false_or, or_false, or_self, ↓reduceIte]
                · try rw [b2i_ne] at c161
                  try rw [Decidable.not_not] at c161
                  refine V_ild6 dX6_buy_164 ?_
                  refine V_ist5 dX6_buy_166 rfl (by decide) ?_
                  refine V_inc6 (nI (k + 1)) dX6_buy_168 (nI_inc k) rfl (by decide) ?_
                  refine V_goto 81 dX6_buy_171 (by decide) ?_
                  refine V_dr7 ?_
                  refine V_eq ?_ rfl rfl ihl2
                  (try first | replace c89 := eq_false c89 | replace c89 := eq_true c89); (try first | replace c99 := eq_false c99 | replace c99 := eq_true c99); (try first | replace c114 := eq_false c114 | replace c114 := eq_true c114); (try first | replace c131 := eq_false c131 | replace c131 := eq_true c131); (try first | replace c143 := eq_false c143 | replace c143 := eq_true c143); (try first | replace c150 := eq_false c150 | replace c150 := eq_true c150); (try first | replace c161 := eq_false c161 | replace c161 := eq_true c161);
                  simp only [bbM, c89, c99, c114, c131, c143, c150, c161, not_true_eq_false, not_false_eq_true, and_self, true_and, and_true, false_and, and_false, true_or, or_true, false_or, or_false, or_self, ↓reduceIte]
  have l2E : V X D tc cX6_buy RX6 8 81 ((fun k => [some (.ref (B 0)), some (.int (nI p)), some (.int v), some (.int w), some (.int (otM τ M (nI p) P)), some (.int (bbM τ M p v (otM τ M (nI p) P) k)), some (.int (nI k)), none]) ((2 ^ M))) [] ((fun k => mW B tc τ) ((2 ^ M))) := by
    refine V_ild6 dX6_buy_81 ?_
    refine V_iconst 1 dX6_buy_83 (by decide) ?_
    refine V_ald0 dX6_buy_84 ?_
    refine V_get lf_X6_93 dX6_buy_85 mW_obj rfl ?_
    refine V_ishl dX6_buy_88 ?_
    refine V_top (y := nI (2 ^ M)) (by rw [hM]; exact sh1 M h6) ?_
    refine V_icmp_ge 174 dX6_buy_89 (by decide) (fun c89 => ?_) (fun c89 => ?_)
    · refine V_ild3 dX6_buy_174 ?_
      refine V_iconst 1 dX6_buy_175 (by decide) ?_
      refine V_icmp_eq 186 dX6_buy_176 (by decide) (fun c176 => ?_) (fun c176 => ?_)
      · refine V_ild5 dX6_buy_186 ?_
        refine V_goto 197 dX6_buy_188 (by decide) ?_
        exact V_iret hX dX6_buy_197 rfl (by rw [← hR]; (try first | replace c89 := eq_false c89 | replace c89 := eq_true c89); (try first | replace c176 := eq_false c176 | replace c176 := eq_true c176); simp only [c89, c176, not_true_eq_false, not_false_eq_true, and_self, true_and, and_true, false_and, and_false, true_or, or_true, false_or, or_false, or_self, ↓reduceIte]) rfl
      · refine V_ild5 dX6_buy_179 ?_
        refine V_bipush (-9) dX6_buy_181 (by decide) ?_
        refine V_icmp_ne 191 dX6_buy_183 (by decide) (fun c183 => ?_) (fun c183 => ?_)
        · refine V_ald0 dX6_buy_191 ?_
          refine V_ild5 dX6_buy_192 ?_
          refine V_callV lm_X6_216 (mk_pricesOf hM h6 _) dX6_buy_194 mW_obj rfl (dep hX (by decide)) rfl (Nat.le_of_ble_eq_true rfl) ?_
          exact V_iret hX dX6_buy_197 rfl (by rw [← hR]; (try first | replace c89 := eq_false c89 | replace c89 := eq_true c89); (try first | replace c176 := eq_false c176 | replace c176 := eq_true c176); (try first | replace c183 := eq_false c183 | replace c183 := eq_true c183); simp only [c89, c176, c183, not_true_eq_false, not_false_eq_true, and_self, true_and, and_true, false_and, and_false, true_or, or_true, false_or, or_false, or_self, ↓reduceIte]) rfl
        · refine V_ild5 dX6_buy_186 ?_
          refine V_goto 197 dX6_buy_188 (by decide) ?_
          exact V_iret hX dX6_buy_197 rfl (by rw [← hR]; (try first | replace c89 := eq_false c89 | replace c89 := eq_true c89); (try first | replace c176 := eq_false c176 | replace c176 := eq_true c176); (try first | replace c183 := eq_false c183 | replace c183 := eq_true c183); simp only [c89, c176, c183, not_true_eq_false, not_false_eq_true, and_self, true_and, and_true, false_and, and_false, true_or, or_true, false_or, or_false, or_self, ↓reduceIte]) rfl
    · exact absurd (Int32.le_refl _) c89
  have l2 := V_for (fun k => [some (.ref (B 0)), some (.int (nI p)), some (.int v), some (.int w), some (.int (otM τ M (nI p) P)), some (.int (bbM τ M p v (otM τ M (nI p) P) k)), some (.int (nI k)), none]) (fun k => mW B tc τ) ((2 ^ M)) l2S l2E
  have l1S : ∀ k, k < P → V X D tc cX6_buy RX6 8 38 ((fun k => [some (.ref (B 0)), some (.int (nI p)), some (.int v), some (.int w), some (.int (otM τ M (nI p) k)), some (.int (nI k)), none, none]) (k + 1)) [] ((fun k => mW B tc τ) (k + 1)) → V X D tc cX6_buy RX6 8 38 ((fun k => [some (.ref (B 0)), some (.int (nI p)), some (.int v), some (.int w), some (.int (otM τ M (nI p) k)), some (.int (nI k)), none, none]) k) [] ((fun k => mW B tc τ) k) := by
    intro k hk ihl1
    refine V_ild5 dX6_buy_38 ?_
    refine V_ald0 dX6_buy_40 ?_
    refine V_get lf_X6_90 dX6_buy_41 mW_obj rfl ?_
    refine V_icmp_ge 74 dX6_buy_44 (by decide) (fun c44 => ?_) (fun c44 => ?_)
    · exact absurd c44 (ge_no hP hk (by omega))
    · refine V_ild4 dX6_buy_47 ?_
      refine V_ild5 dX6_buy_49 ?_
      refine V_ild1 dX6_buy_51 ?_
      refine V_icmp_ne 59 dX6_buy_52 (by decide) (fun c52 => ?_) (fun c52 => ?_)
      · refine V_ald0 dX6_buy_59 ?_
        refine V_ild5 dX6_buy_60 ?_
        refine V_callV lm_X6_162 (mk_ownOf hM h6 _) dX6_buy_62 mW_obj rfl (dep hX (by decide)) rfl (Nat.le_of_ble_eq_true rfl) ?_
        refine V_ior dX6_buy_65 ?_
        refine V_ist4 dX6_buy_66 rfl (by decide) ?_
        refine V_inc5 (nI (k + 1)) dX6_buy_68 (nI_inc k) rfl (by decide) ?_
        refine V_goto 38 dX6_buy_71 (by decide) ?_
        refine V_eq ?_ rfl rfl ihl1
        simp only [otM]
        first | rw [if_pos c52] | rw [if_neg c52]
      · refine V_iconst 0 dX6_buy_55 (by decide) ?_
        refine V_goto 65 dX6_buy_56 (by decide) ?_
        refine V_ior dX6_buy_65 ?_
        refine V_ist4 dX6_buy_66 rfl (by decide) ?_
        refine V_inc5 (nI (k + 1)) dX6_buy_68 (nI_inc k) rfl (by decide) ?_
        refine V_goto 38 dX6_buy_71 (by decide) ?_
        refine V_eq ?_ rfl rfl ihl1
        simp only [otM]
        first | rw [if_pos c52] | rw [if_neg c52]
  have l1E : V X D tc cX6_buy RX6 8 38 ((fun k => [some (.ref (B 0)), some (.int (nI p)), some (.int v), some (.int w), some (.int (otM τ M (nI p) k)), some (.int (nI k)), none, none]) (P)) [] ((fun k => mW B tc τ) (P)) := by
    refine V_ild5 dX6_buy_38 ?_
    refine V_ald0 dX6_buy_40 ?_
    refine V_get lf_X6_90 dX6_buy_41 mW_obj rfl ?_
    refine V_icmp_ge 74 dX6_buy_44 (by decide) (fun c44 => ?_) (fun c44 => ?_)
    · refine V_bipush (-9) dX6_buy_74 (by decide) ?_
      refine V_ist5 dX6_buy_76 rfl (by decide) ?_
      refine V_iconst 0 dX6_buy_78 (by decide) ?_
      refine V_ist6 dX6_buy_79 rfl (by decide) ?_
      exact l2 0 (Nat.zero_le _)
    · exact absurd (ge_yes hP) c44
  have l1 := V_for (fun k => [some (.ref (B 0)), some (.int (nI p)), some (.int v), some (.int w), some (.int (otM τ M (nI p) k)), some (.int (nI k)), none, none]) (fun k => mW B tc τ) (P) l1S l1E
  exact l1 0 (Nat.zero_le _)
set_option maxRecDepth 100000 in
set_option maxHeartbeats 4000000 in
theorem mk_buy (hP : τ 5 0 = nI P) (h4 : P ≤ 4) (hM : τ 6 0 = nI M) (h6 : M ≤ 6) (p v w : Int32) : Ok 4 yX6_buy cX6_buy 8 (some .int) D tc [.ref (B 0), .int p, .int v, .int w] (mW B tc τ) (some (.int (Rm_buy τ P M p v w))) (mW B tc τ) := by
  refine Ok_of RX6 rfl (by decide) [some (.ref (B 0)), some (.int p), some (.int v), some (.int w), none, none, none, none] rfl (Nat.le_of_ble_eq_true rfl) ?_
  intro X hX
  refine V_ald0 dX6_buy_0 ?_
  refine V_ild1 dX6_buy_1 ?_
  refine V_callV lm_X6_159 (mk_isPerson _) dX6_buy_2 mW_obj rfl (dep hX (by decide)) rfl (Nat.le_of_ble_eq_true rfl) ?_
  refine V_if_ne 10 dX6_buy_5 (by decide) (fun c5 => ?_) (fun c5 => ?_)
  · try rw [b2i_ne] at c5
    try rw [Decidable.not_not] at c5
    obtain ⟨j, hj, ej⟩ := isP_of hP (by omega) c5
    subst ej
    have hcj : (nI j).toNatClampNeg = j := nI_clamp (by omega)
    refine V_ild2 dX6_buy_10 ?_
    refine V_iconst 0 dX6_buy_11 (by decide) ?_
    refine V_bipush 99 dX6_buy_12 (by decide) ?_
    refine V_callS ls_X6_86 (mk_within _ _ _) dX6_buy_14 (dep hX (by decide)) rfl (Nat.le_of_ble_eq_true rfl) ?_
    refine V_if_eq 29 dX6_buy_17 (by decide) (fun c17 => ?_) (fun c17 => ?_)
    · try rw [b2i_eq] at c17
      try rw [Decidable.not_not] at c17
      refine V_bipush (-2) dX6_buy_29 (by decide) ?_
      exact V_iret hX dX6_buy_31 rfl (by (try first | replace c5 := eq_false c5 | replace c5 := eq_true c5); (try first | replace c17 := eq_false c17 | replace c17 := eq_true c17); simp only [Rm_buy, c5, c17, not_true_eq_false, not_false_eq_true, and_self, true_and, and_true, false_and, and_false, true_or, or_true, false_or, or_false, or_self, ↓reduceIte]) rfl
    · try rw [b2i_ne] at c17
      try rw [Decidable.not_not] at c17
      refine V_ild3 dX6_buy_20 ?_
      refine V_iconst 0 dX6_buy_21 (by decide) ?_
      refine V_iconst 1 dX6_buy_22 (by decide) ?_
      refine V_callS ls_X6_86 (mk_within _ _ _) dX6_buy_23 (dep hX (by decide)) rfl (Nat.le_of_ble_eq_true rfl) ?_
      refine V_if_ne 32 dX6_buy_26 (by decide) (fun c26 => ?_) (fun c26 => ?_)
      · try rw [b2i_ne] at c26
        try rw [Decidable.not_not] at c26
        refine V_iconst 0 dX6_buy_32 (by decide) ?_
        refine V_ist4 dX6_buy_33 rfl (by decide) ?_
        refine V_iconst 0 dX6_buy_35 (by decide) ?_
        refine V_ist5 dX6_buy_36 rfl (by decide) ?_
        refine lo_buyM hP h4 hM h6 (by omega) (R := Rm_buy τ P M (nI j) v w) ?_ hX
        rw [Rm_buy, if_pos c5, if_pos (show wiI v 0 99 ∧ wiI w 0 1 from ⟨c17, c26⟩), buM, hcj]
      · try rw [b2i_eq] at c26
        try rw [Decidable.not_not] at c26
        refine V_bipush (-2) dX6_buy_29 (by decide) ?_
        exact V_iret hX dX6_buy_31 rfl (by (try first | replace c5 := eq_false c5 | replace c5 := eq_true c5); (try first | replace c17 := eq_false c17 | replace c17 := eq_true c17); (try first | replace c26 := eq_false c26 | replace c26 := eq_true c26); simp only [Rm_buy, c5, c17, c26, not_true_eq_false, not_false_eq_true, and_self, true_and, and_true, false_and, and_false, true_or, or_true, false_or, or_false, or_self, ↓reduceIte]) rfl
  · try rw [b2i_eq] at c5
    try rw [Decidable.not_not] at c5
    refine V_iconst (-1) dX6_buy_8 (by decide) ?_
    exact V_iret hX dX6_buy_9 rfl (by (try first | replace c5 := eq_false c5 | replace c5 := eq_true c5); simp only [Rm_buy, c5, not_true_eq_false, not_false_eq_true, and_self, true_and, and_true, false_and, and_false, true_or, or_true, false_or, or_false, or_self, ↓reduceIte]) rfl
set_option maxRecDepth 100000 in
set_option maxHeartbeats 4000000 in
theorem lo_debtM (hM : τ 6 0 = nI M) (h6 : M ≤ 6) {X : Cx} {p : Nat} (hp : p < 4) {v w R : Int32} (hR : (if w = 0 then (dbM τ M p v (owM τ (nI p) M) (2 ^ M)).2 else (dbM τ M p v (owM τ (nI p) M) (2 ^ M)).1) = R) (hX : Aim X D (some .int) 4 (some (.int R)) (mW B tc τ)) : V X D tc cX6_debt RX6 10 51 [some (.ref (B 0)), some (.int (nI p)), some (.int v), some (.int w), some (.int (owM τ (nI p) M)), some (.int (-9)), some (.int (-9)), some (.int 0), none, none] [] (mW B tc τ) := by
  have hp6 := p64 h6
  have l1S : ∀ k, k < (2 ^ M) → V X D tc cX6_debt RX6 10 51 ((fun k => [some (.ref (B 0)), some (.int (nI p)), some (.int v), some (.int w), some (.int (owM τ (nI p) M)), some (.int (dbM τ M p v (owM τ (nI p) M) k).1), some (.int (dbM τ M p v (owM τ (nI p) M) k).2), some (.int (nI k)), none, none]) (k + 1)) [] ((fun k => mW B tc τ) (k + 1)) → V X D tc cX6_debt RX6 10 51 ((fun k => [some (.ref (B 0)), some (.int (nI p)), some (.int v), some (.int w), some (.int (owM τ (nI p) M)), some (.int (dbM τ M p v (owM τ (nI p) M) k).1), some (.int (dbM τ M p v (owM τ (nI p) M) k).2), some (.int (nI k)), none, none]) k) [] ((fun k => mW B tc τ) k) := by
    intro k hk ihl1
    refine V_ild7 dX6_debt_51 ?_
    refine V_iconst 1 dX6_debt_53 (by decide) ?_
    refine V_ald0 dX6_debt_54 ?_
    refine V_get lf_X6_93 dX6_debt_55 mW_obj rfl ?_
    refine V_ishl dX6_debt_58 ?_
    refine V_top (y := nI (2 ^ M)) (by rw [hM]; exact sh1 M h6) ?_
    refine V_icmp_ge 159 dX6_debt_59 (by decide) (fun c59 => ?_) (fun c59 => ?_)
    · exact absurd c59 (nI_ge hk (by omega))
    · refine V_ild7 dX6_debt_62 ?_
      refine V_ild4 dX6_debt_64 ?_
      refine V_iconst (-1) dX6_debt_66 (by decide) ?_
      refine V_ixor dX6_debt_67 ?_
      refine V_iand dX6_debt_68 ?_
      refine V_if_ne 86 dX6_debt_69 (by decide) (fun c69 => ?_) (fun c69 => ?_)
      · refine V_iconst 0 dX6_debt_86 (by decide) ?_
        refine V_ist8 dX6_debt_87 rfl (by decide) ?_
        refine V_ild8 dX6_debt_89 ?_
        refine V_if_eq 109 dX6_debt_91 (by decide) (fun c91 => ?_) (fun c91 => ?_)
        · refine V_bipush (-9) dX6_debt_109 (by decide) ?_
          refine V_ist9 dX6_debt_111 rfl (by decide) ?_
          refine V_ild8 dX6_debt_113 ?_
          refine V_if_eq 153 dX6_debt_115 (by decide) (fun c115 => ?_) (fun c115 => ?_)
          · refine V_inc7 (nI (k + 1)) dX6_debt_153 (nI_inc k) rfl (by decide) ?_
            refine V_goto 51 dX6_debt_156 (by decide) ?_
            refine V_dr8 ?_
            refine V_dr9 ?_
            refine V_eq ?_ rfl rfl ihl1
            (try first | replace c59 := eq_false c59 | replace c59 := eq_true c59); (try first | replace c69 := eq_false c69 | replace c69 := eq_true c69); (try first | replace c91 := eq_false c91 | replace c91 := eq_true c91); (try first | replace c115 := eq_false c115 | replace c115 := eq_true c115);
            simp only [dbM, c59, c69, c91, c115, not_true_eq_false, not_false_eq_true, and_self, true_and, and_true, false_and, and_false, true_or, or_true, false_or, or_false, or_self, ↓reduceIte]
          · first | exact absurd c115 (by decide) | exact absurd (by decide) c115
        · first | exact absurd c91 (by decide) | exact absurd (by decide) c91
      · refine V_ald0 dX6_debt_72 ?_
        refine V_ild7 dX6_debt_73 ?_
        refine V_callV lm_X6_216 (mk_pricesOf hM h6 _) dX6_debt_75 mW_obj rfl (dep hX (by decide)) rfl (Nat.le_of_ble_eq_true rfl) ?_
        refine V_ild2 dX6_debt_78 ?_
        refine V_icmp_lt 86 dX6_debt_79 (by decide) (fun c79 => ?_) (fun c79 => ?_)
        · refine V_iconst 0 dX6_debt_86 (by decide) ?_
          refine V_ist8 dX6_debt_87 rfl (by decide) ?_
          refine V_ild8 dX6_debt_89 ?_
          refine V_if_eq 109 dX6_debt_91 (by decide) (fun c91 => ?_) (fun c91 => ?_)
          · refine V_bipush (-9) dX6_debt_109 (by decide) ?_
            refine V_ist9 dX6_debt_111 rfl (by decide) ?_
            refine V_ild8 dX6_debt_113 ?_
            refine V_if_eq 153 dX6_debt_115 (by decide) (fun c115 => ?_) (fun c115 => ?_)
            · refine V_inc7 (nI (k + 1)) dX6_debt_153 (nI_inc k) rfl (by decide) ?_
              refine V_goto 51 dX6_debt_156 (by decide) ?_
              refine V_dr8 ?_
              refine V_dr9 ?_
              refine V_eq ?_ rfl rfl ihl1
              (try first | replace c59 := eq_false c59 | replace c59 := eq_true c59); (try first | replace c69 := eq_false c69 | replace c69 := eq_true c69); (try first | replace c79 := eq_false c79 | replace c79 := eq_true c79); (try first | replace c91 := eq_false c91 | replace c91 := eq_true c91); (try first | replace c115 := eq_false c115 | replace c115 := eq_true c115);
              simp only [dbM, c59, c69, c79, c91, c115, not_true_eq_false, not_false_eq_true, and_self, true_and, and_true, false_and, and_false, true_or, or_true, false_or, or_false, or_self, ↓reduceIte]
            · first | exact absurd c115 (by decide) | exact absurd (by decide) c115
          · first | exact absurd c91 (by decide) | exact absurd (by decide) c91
        · refine V_iconst 1 dX6_debt_82 (by decide) ?_
          refine V_goto 87 dX6_debt_83 (by decide) ?_
          refine V_ist8 dX6_debt_87 rfl (by decide) ?_
          refine V_ild8 dX6_debt_89 ?_
          refine V_if_eq 109 dX6_debt_91 (by decide) (fun c91 => ?_) (fun c91 => ?_)
          · first | exact absurd c91 (by decide) | exact absurd (by decide) c91
          · refine V_ald0 dX6_debt_94 ?_
            refine V_ild1 dX6_debt_95 ?_
            refine V_ild4 dX6_debt_96 ?_
            refine V_ild7 dX6_debt_98 ?_
            refine V_iconst (-1) dX6_debt_100 (by decide) ?_
            refine V_ixor dX6_debt_101 ?_
            refine V_iand dX6_debt_102 ?_
            refine V_callV lm_X6_207 (mk_feastBy hM h6 p hp _) dX6_debt_103 mW_obj rfl (dep hX (by decide)) rfl (Nat.le_of_ble_eq_true rfl) ?_
            refine V_goto 111 dX6_debt_106 (by decide) ?_
            refine V_ist9 dX6_debt_111 rfl (by decide) ?_
            refine V_ild8 dX6_debt_113 ?_
            refine V_if_eq 153 dX6_debt_115 (by decide) (fun c115 => ?_) (fun c115 => ?_)
            · first | exact absurd c115 (by decide) | exact absurd (by decide) c115
            · refine V_ild9 dX6_debt_118 ?_
              refine V_ild6 dX6_debt_120 ?_
              refine V_icmp_gt 145 dX6_debt_122 (by decide) (fun c122 => ?_) (fun c122 => ?_)
              · refine V_ild7 dX6_debt_145 ?_
                refine V_ist5 dX6_debt_147 rfl (by decide) ?_
                refine V_ild9 dX6_debt_149 ?_
                refine V_ist6 dX6_debt_151 rfl (by decide) ?_
                refine V_inc7 (nI (k + 1)) dX6_debt_153 (nI_inc k) rfl (by decide) ?_
                refine V_goto 51 dX6_debt_156 (by decide) ?_
                refine V_dr8 ?_
                refine V_dr9 ?_
                refine V_eq ?_ rfl rfl ihl1
                (try first | replace c59 := eq_false c59 | replace c59 := eq_true c59); (try first | replace c69 := eq_false c69 | replace c69 := eq_true c69); (try first | replace c79 := eq_false c79 | replace c79 := eq_true c79); (try first | replace c91 := eq_false c91 | replace c91 := eq_true c91); (try first | replace c115 := eq_false c115 | replace c115 := eq_true c115); (try first | replace c122 := eq_false c122 | replace c122 := eq_true c122);
                simp only [dbM, c59, c69, c79, c91, c115, c122, not_true_eq_false, not_false_eq_true, and_self, true_and, and_true, false_and, and_false, true_or, or_true, false_or, or_false, or_self, ↓reduceIte]
              · refine V_ild9 dX6_debt_125 ?_
                refine V_ild6 dX6_debt_127 ?_
                refine V_icmp_ne 153 dX6_debt_129 (by decide) (fun c129 => ?_) (fun c129 => ?_)
                · refine V_inc7 (nI (k + 1)) dX6_debt_153 (nI_inc k) rfl (by decide) ?_
                  refine V_goto 51 dX6_debt_156 (by decide) ?_
                  refine V_dr8 ?_
                  refine V_dr9 ?_
                  refine V_eq ?_ rfl rfl ihl1
                  (try first | replace c59 := eq_false c59 | replace c59 := eq_true c59); (try first | replace c69 := eq_false c69 | replace c69 := eq_true c69); (try first | replace c79 := eq_false c79 | replace c79 := eq_true c79); (try first | replace c91 := eq_false c91 | replace c91 := eq_true c91); (try first | replace c115 := eq_false c115 | replace c115 := eq_true c115); (try first | replace c122 := eq_false c122 | replace c122 := eq_true c122); (try first | replace c129 := eq_false c129 | replace c129 := eq_true c129);
                  simp only [dbM, c59, c69, c79, c91, c115, c122, c129, not_true_eq_false, not_false_eq_true, and_self, true_and, and_true, false_and, and_false, true_or, or_true, false_or, or_false, or_self, ↓reduceIte]
                · refine V_ild7 dX6_debt_132 ?_
                  refine V_callS ls_X6_165 (mk_size _) dX6_debt_134 (dep hX (by decide)) rfl (Nat.le_of_ble_eq_true rfl) ?_
                  refine V_ild5 dX6_debt_137 ?_
                  refine V_callS ls_X6_165 (mk_size _) dX6_debt_139 (dep hX (by decide)) rfl (Nat.le_of_ble_eq_true rfl) ?_
                  refine V_icmp_ge 153 dX6_debt_142 (by decide) (fun c142 => ?_) (fun c142 => ?_)
                  · refine V_inc7 (nI (k + 1)) dX6_debt_153 (nI_inc k) rfl (by decide) ?_
                    refine V_goto 51 dX6_debt_156 (by decide) ?_
                    refine V_dr8 ?_
                    refine V_dr9 ?_
                    refine V_eq ?_ rfl rfl ihl1
                    (try first | replace c59 := eq_false c59 | replace c59 := eq_true c59); (try first | replace c69 := eq_false c69 | replace c69 := eq_true c69); (try first | replace c79 := eq_false c79 | replace c79 := eq_true c79); (try first | replace c91 := eq_false c91 | replace c91 := eq_true c91); (try first | replace c115 := eq_false c115 | replace c115 := eq_true c115); (try first | replace c122 := eq_false c122 | replace c122 := eq_true c122); (try first | replace c129 := eq_false c129 | replace c129 := eq_true c129); (try first | replace c142 := eq_false c142 | replace c142 := eq_true c142);
                    simp only [dbM, c59, c69, c79, c91, c115, c122, c129, c142, not_true_eq_false, not_false_eq_true, and_self, true_and, and_true, false_and, and_false, true_or, or_true, false_or, or_false, or_self, ↓reduceIte]
                  · refine V_ild7 dX6_debt_145 ?_
                    refine V_ist5 dX6_debt_147 rfl (by decide) ?_
                    refine V_ild9 dX6_debt_149 ?_
                    refine V_ist6 dX6_debt_151 rfl (by decide) ?_
                    refine V_inc7 (nI (k + 1)) dX6_debt_153 (nI_inc k) rfl (by decide) ?_
                    refine V_goto 51 dX6_debt_156 (by decide) ?_
                    refine V_dr8 ?_
                    refine V_dr9 ?_
                    refine V_eq ?_ rfl rfl ihl1
                    (try first | replace c59 := eq_false c59 | replace c59 := eq_true c59); (try first | replace c69 := eq_false c69 | replace c69 := eq_true c69); (try first | replace c79 := eq_false c79 | replace c79 := eq_true c79); (try first | replace c91 := eq_false c91 | replace c91 := eq_true c91); (try first | replace c115 := eq_false c115 | replace c115 := eq_true c115); (try first | replace c122 := eq_false c122 | replace c122 := eq_true c122); (try first | replace c129 := eq_false c129 | replace c129 := eq_true c129); (try first | replace c142 := eq_false c142 | replace c142 := eq_true c142);
                    simp only [dbM, c59, c69, c79, c91, c115, c122, c129, c142, not_true_eq_false, not_false_eq_true, and_self, true_and, and_true, false_and, and_false, true_or, or_true, false_or, or_false, or_self, ↓reduceIte]
  have l1E : V X D tc cX6_debt RX6 10 51 ((fun k => [some (.ref (B 0)), some (.int (nI p)), some (.int v), some (.int w), some (.int (owM τ (nI p) M)), some (.int (dbM τ M p v (owM τ (nI p) M) k).1), some (.int (dbM τ M p v (owM τ (nI p) M) k).2), some (.int (nI k)), none, none]) ((2 ^ M))) [] ((fun k => mW B tc τ) ((2 ^ M))) := by
    refine V_ild7 dX6_debt_51 ?_
    refine V_iconst 1 dX6_debt_53 (by decide) ?_
    refine V_ald0 dX6_debt_54 ?_
    refine V_get lf_X6_93 dX6_debt_55 mW_obj rfl ?_
    refine V_ishl dX6_debt_58 ?_
    refine V_top (y := nI (2 ^ M)) (by rw [hM]; exact sh1 M h6) ?_
    refine V_icmp_ge 159 dX6_debt_59 (by decide) (fun c59 => ?_) (fun c59 => ?_)
    · refine V_ild3 dX6_debt_159 ?_
      refine V_if_ne 168 dX6_debt_160 (by decide) (fun c160 => ?_) (fun c160 => ?_)
      · refine V_ild5 dX6_debt_168 ?_
        exact V_iret hX dX6_debt_170 rfl (by rw [← hR]; (try first | replace c59 := eq_false c59 | replace c59 := eq_true c59); (try first | replace c160 := eq_false c160 | replace c160 := eq_true c160); simp only [c59, c160, not_true_eq_false, not_false_eq_true, and_self, true_and, and_true, false_and, and_false, true_or, or_true, false_or, or_false, or_self, ↓reduceIte]) rfl
      · refine V_ild6 dX6_debt_163 ?_
        refine V_goto 170 dX6_debt_165 (by decide) ?_
        exact V_iret hX dX6_debt_170 rfl (by rw [← hR]; (try first | replace c59 := eq_false c59 | replace c59 := eq_true c59); (try first | replace c160 := eq_false c160 | replace c160 := eq_true c160); simp only [c59, c160, not_true_eq_false, not_false_eq_true, and_self, true_and, and_true, false_and, and_false, true_or, or_true, false_or, or_false, or_self, ↓reduceIte]) rfl
    · exact absurd (Int32.le_refl _) c59
  have l1 := V_for (fun k => [some (.ref (B 0)), some (.int (nI p)), some (.int v), some (.int w), some (.int (owM τ (nI p) M)), some (.int (dbM τ M p v (owM τ (nI p) M) k).1), some (.int (dbM τ M p v (owM τ (nI p) M) k).2), some (.int (nI k)), none, none]) (fun k => mW B tc τ) ((2 ^ M)) l1S l1E
  exact l1 0 (Nat.zero_le _)
set_option maxRecDepth 100000 in
set_option maxHeartbeats 4000000 in
theorem mk_debt (hP : τ 5 0 = nI P) (h4 : P ≤ 4) (hM : τ 6 0 = nI M) (h6 : M ≤ 6) (p v w : Int32) : Ok 4 yX6_debt cX6_debt 10 (some .int) D tc [.ref (B 0), .int p, .int v, .int w] (mW B tc τ) (some (.int (Rm_debt τ M p v w))) (mW B tc τ) := by
  refine Ok_of RX6 rfl (by decide) [some (.ref (B 0)), some (.int p), some (.int v), some (.int w), none, none, none, none, none, none] rfl (Nat.le_of_ble_eq_true rfl) ?_
  intro X hX
  refine V_ald0 dX6_debt_0 ?_
  refine V_ild1 dX6_debt_1 ?_
  refine V_callV lm_X6_159 (mk_isPerson _) dX6_debt_2 mW_obj rfl (dep hX (by decide)) rfl (Nat.le_of_ble_eq_true rfl) ?_
  refine V_if_ne 10 dX6_debt_5 (by decide) (fun c5 => ?_) (fun c5 => ?_)
  · try rw [b2i_ne] at c5
    try rw [Decidable.not_not] at c5
    obtain ⟨j, hj, ej⟩ := isP_of hP (by omega) c5
    subst ej
    have hcj : (nI j).toNatClampNeg = j := nI_clamp (by omega)
    refine V_ild2 dX6_debt_10 ?_
    refine V_iconst 0 dX6_debt_11 (by decide) ?_
    refine V_sipush 999 dX6_debt_12 (by decide) ?_
    refine V_callS ls_X6_86 (mk_within _ _ _) dX6_debt_15 (dep hX (by decide)) rfl (Nat.le_of_ble_eq_true rfl) ?_
    refine V_if_eq 30 dX6_debt_18 (by decide) (fun c18 => ?_) (fun c18 => ?_)
    · try rw [b2i_eq] at c18
      try rw [Decidable.not_not] at c18
      refine V_bipush (-2) dX6_debt_30 (by decide) ?_
      exact V_iret hX dX6_debt_32 rfl (by (try first | replace c5 := eq_false c5 | replace c5 := eq_true c5); (try first | replace c18 := eq_false c18 | replace c18 := eq_true c18); simp only [Rm_debt, c5, c18, not_true_eq_false, not_false_eq_true, and_self, true_and, and_true, false_and, and_false, true_or, or_true, false_or, or_false, or_self, ↓reduceIte]) rfl
    · try rw [b2i_ne] at c18
      try rw [Decidable.not_not] at c18
      refine V_ild3 dX6_debt_21 ?_
      refine V_iconst 0 dX6_debt_22 (by decide) ?_
      refine V_iconst 1 dX6_debt_23 (by decide) ?_
      refine V_callS ls_X6_86 (mk_within _ _ _) dX6_debt_24 (dep hX (by decide)) rfl (Nat.le_of_ble_eq_true rfl) ?_
      refine V_if_ne 33 dX6_debt_27 (by decide) (fun c27 => ?_) (fun c27 => ?_)
      · try rw [b2i_ne] at c27
        try rw [Decidable.not_not] at c27
        refine V_ald0 dX6_debt_33 ?_
        refine V_ild1 dX6_debt_34 ?_
        refine V_callV lm_X6_162 (mk_ownOf hM h6 _) dX6_debt_35 mW_obj rfl (dep hX (by decide)) rfl (Nat.le_of_ble_eq_true rfl) ?_
        refine V_ist4 dX6_debt_38 rfl (by decide) ?_
        refine V_bipush (-9) dX6_debt_40 (by decide) ?_
        refine V_ist5 dX6_debt_42 rfl (by decide) ?_
        refine V_bipush (-9) dX6_debt_44 (by decide) ?_
        refine V_ist6 dX6_debt_46 rfl (by decide) ?_
        refine V_iconst 0 dX6_debt_48 (by decide) ?_
        refine V_ist7 dX6_debt_49 rfl (by decide) ?_
        refine lo_debtM hM h6 (by omega) (R := Rm_debt τ M (nI j) v w) ?_ hX
        rw [Rm_debt, if_pos c5, if_pos (show wiI v 0 999 ∧ wiI w 0 1 from ⟨c18, c27⟩), hcj]
      · try rw [b2i_eq] at c27
        try rw [Decidable.not_not] at c27
        refine V_bipush (-2) dX6_debt_30 (by decide) ?_
        exact V_iret hX dX6_debt_32 rfl (by (try first | replace c5 := eq_false c5 | replace c5 := eq_true c5); (try first | replace c18 := eq_false c18 | replace c18 := eq_true c18); (try first | replace c27 := eq_false c27 | replace c27 := eq_true c27); simp only [Rm_debt, c5, c18, c27, not_true_eq_false, not_false_eq_true, and_self, true_and, and_true, false_and, and_false, true_or, or_true, false_or, or_false, or_self, ↓reduceIte]) rfl
  · try rw [b2i_eq] at c5
    try rw [Decidable.not_not] at c5
    refine V_iconst (-1) dX6_debt_8 (by decide) ?_
    exact V_iret hX dX6_debt_9 rfl (by (try first | replace c5 := eq_false c5 | replace c5 := eq_true c5); simp only [Rm_debt, c5, not_true_eq_false, not_false_eq_true, and_self, true_and, and_true, false_and, and_false, true_or, or_true, false_or, or_false, or_self, ↓reduceIte]) rfl
set_option maxRecDepth 100000 in
set_option maxHeartbeats 4000000 in
theorem mk_gainBy (hM : τ 6 0 = nI M) (h6 : M ≤ 6) (a b q r : Nat) (ha : a < 6) (hb : b < 6) (hq4 : q < 4) (hr4 : r < 4) (hq : τ 13 a = nI q) (hr : τ 13 b = nI r) : Ok 3 yX6_gainBy cX6_gainBy 8 (some .int) D tc [.ref (B 0), .int (nI a), .int (nI b)] (mW B tc τ) (some (.int (gbM τ M a b q r))) (mW B tc τ) := by
  refine Ok_of RX6 rfl (by decide) [some (.ref (B 0)), some (.int (nI a)), some (.int (nI b)), none, none, none, none, none] rfl (Nat.le_of_ble_eq_true rfl) ?_
  intro X hX
  refine V_ald0 dX6_gainBy_0 ?_
  refine V_get lf_X6_32 dX6_gainBy_1 mW_obj rfl ?_
  refine V_ild1 dX6_gainBy_4 ?_
  refine V_ialdk dX6_gainBy_5 mW_a13 ⟨ha, by decide⟩ ?_
  refine V_top (y := nI q) hq ?_
  refine V_ist3 dX6_gainBy_6 rfl (by decide) ?_
  refine V_ald0 dX6_gainBy_7 ?_
  refine V_get lf_X6_32 dX6_gainBy_8 mW_obj rfl ?_
  refine V_ild2 dX6_gainBy_11 ?_
  refine V_ialdk dX6_gainBy_12 mW_a13 ⟨hb, by decide⟩ ?_
  refine V_top (y := nI r) hr ?_
  refine V_ist4 dX6_gainBy_13 rfl (by decide) ?_
  refine V_iconst 1 dX6_gainBy_15 (by decide) ?_
  refine V_ild1 dX6_gainBy_16 ?_
  refine V_ishl dX6_gainBy_17 ?_
  refine V_iconst 1 dX6_gainBy_18 (by decide) ?_
  refine V_ild2 dX6_gainBy_19 ?_
  refine V_ishl dX6_gainBy_20 ?_
  refine V_ior dX6_gainBy_21 ?_
  refine V_ist5 dX6_gainBy_22 rfl (by decide) ?_
  refine V_ald0 dX6_gainBy_24 ?_
  refine V_ild3 dX6_gainBy_25 ?_
  refine V_ald0 dX6_gainBy_26 ?_
  refine V_ild3 dX6_gainBy_27 ?_
  refine V_callV lm_X6_162 (mk_ownOf hM h6 _) dX6_gainBy_28 mW_obj rfl (dep hX (by decide)) rfl (Nat.le_of_ble_eq_true rfl) ?_
  refine V_ild5 dX6_gainBy_31 ?_
  refine V_ixor dX6_gainBy_33 ?_
  refine V_callV lm_X6_207 (mk_feastBy hM h6 q hq4 _) dX6_gainBy_34 mW_obj rfl (dep hX (by decide)) rfl (Nat.le_of_ble_eq_true rfl) ?_
  refine V_ald0 dX6_gainBy_37 ?_
  refine V_ild3 dX6_gainBy_38 ?_
  refine V_ald0 dX6_gainBy_39 ?_
  refine V_ild3 dX6_gainBy_40 ?_
  refine V_callV lm_X6_162 (mk_ownOf hM h6 _) dX6_gainBy_41 mW_obj rfl (dep hX (by decide)) rfl (Nat.le_of_ble_eq_true rfl) ?_
  refine V_callV lm_X6_207 (mk_feastBy hM h6 q hq4 _) dX6_gainBy_44 mW_obj rfl (dep hX (by decide)) rfl (Nat.le_of_ble_eq_true rfl) ?_
  refine V_isub dX6_gainBy_47 ?_
  refine V_ist6 dX6_gainBy_48 rfl (by decide) ?_
  refine V_ald0 dX6_gainBy_50 ?_
  refine V_ild4 dX6_gainBy_51 ?_
  refine V_ald0 dX6_gainBy_53 ?_
  refine V_ild4 dX6_gainBy_54 ?_
  refine V_callV lm_X6_162 (mk_ownOf hM h6 _) dX6_gainBy_56 mW_obj rfl (dep hX (by decide)) rfl (Nat.le_of_ble_eq_true rfl) ?_
  refine V_ild5 dX6_gainBy_59 ?_
  refine V_ixor dX6_gainBy_61 ?_
  refine V_callV lm_X6_207 (mk_feastBy hM h6 r hr4 _) dX6_gainBy_62 mW_obj rfl (dep hX (by decide)) rfl (Nat.le_of_ble_eq_true rfl) ?_
  refine V_ald0 dX6_gainBy_65 ?_
  refine V_ild4 dX6_gainBy_66 ?_
  refine V_ald0 dX6_gainBy_68 ?_
  refine V_ild4 dX6_gainBy_69 ?_
  refine V_callV lm_X6_162 (mk_ownOf hM h6 _) dX6_gainBy_71 mW_obj rfl (dep hX (by decide)) rfl (Nat.le_of_ble_eq_true rfl) ?_
  refine V_callV lm_X6_207 (mk_feastBy hM h6 r hr4 _) dX6_gainBy_74 mW_obj rfl (dep hX (by decide)) rfl (Nat.le_of_ble_eq_true rfl) ?_
  refine V_isub dX6_gainBy_77 ?_
  refine V_ist7 dX6_gainBy_78 rfl (by decide) ?_
  refine V_ild6 dX6_gainBy_80 ?_
  refine V_if_lt 90 dX6_gainBy_82 (by decide) (fun c82 => ?_) (fun c82 => ?_)
  · refine V_bipush (-9) dX6_gainBy_90 (by decide) ?_
    refine V_goto 100 dX6_gainBy_92 (by decide) ?_
    exact V_iret hX dX6_gainBy_100 rfl (by (try first | replace c82 := eq_false c82 | replace c82 := eq_true c82); simp only [gbM, oneI, c82, not_true_eq_false, not_false_eq_true, and_self, true_and, and_true, false_and, and_false, true_or, or_true, false_or, or_false, or_self, ↓reduceIte]) rfl
  · refine V_ild7 dX6_gainBy_85 ?_
    refine V_if_ge 95 dX6_gainBy_87 (by decide) (fun c87 => ?_) (fun c87 => ?_)
    · refine V_ild6 dX6_gainBy_95 ?_
      refine V_ild7 dX6_gainBy_97 ?_
      refine V_iadd dX6_gainBy_99 ?_
      exact V_iret hX dX6_gainBy_100 rfl (by (try first | replace c82 := eq_false c82 | replace c82 := eq_true c82); (try first | replace c87 := eq_false c87 | replace c87 := eq_true c87); simp only [gbM, oneI, c82, c87, not_true_eq_false, not_false_eq_true, and_self, true_and, and_true, false_and, and_false, true_or, or_true, false_or, or_false, or_self, ↓reduceIte]) rfl
    · refine V_bipush (-9) dX6_gainBy_90 (by decide) ?_
      refine V_goto 100 dX6_gainBy_92 (by decide) ?_
      exact V_iret hX dX6_gainBy_100 rfl (by (try first | replace c82 := eq_false c82 | replace c82 := eq_true c82); (try first | replace c87 := eq_false c87 | replace c87 := eq_true c87); simp only [gbM, oneI, c82, c87, not_true_eq_false, not_false_eq_true, and_self, true_and, and_true, false_and, and_false, true_or, or_true, false_or, or_false, or_self, ↓reduceIte]) rfl
set_option maxRecDepth 100000 in
set_option maxHeartbeats 4000000 in
theorem mk_findSwap (hM : τ 6 0 = nI M) (h6 : M ≤ 6) (hw : ∀ m, m < M → ∃ q, q < 4 ∧ τ 13 m = nI q) : Ok 4 yX6_findSwap cX6_findSwap 5 (some .int) D tc [.ref (B 0)] (mW B tc τ) (some (.int (if (fsO τ M M).1 = 0 then -9 else (fsO τ M M).1))) (mW B tc (fwS τ (fsO τ M M))) := by
  refine Ok_of RX6 rfl (by decide) [some (.ref (B 0)), none, none, none, none] rfl (Nat.le_of_ble_eq_true rfl) ?_
  intro X hX
  have lpS : ∀ a, a < M → V X D tc cX6_findSwap RX6 5 16 ((fun a => [some (.ref (B 0)), some (.int (fsO τ M a).1), some (.int (nI a)), none, none]) (a + 1)) [] ((fun a => mW B tc (fwS τ (fsO τ M a))) (a + 1)) → V X D tc cX6_findSwap RX6 5 16 ((fun a => [some (.ref (B 0)), some (.int (fsO τ M a).1), some (.int (nI a)), none, none]) a) [] ((fun a => mW B tc (fwS τ (fsO τ M a))) a) := by
    intro a ha ihlp
    have innS : ∀ k, k < (M - (a + 1)) → V X D tc cX6_findSwap RX6 5 28 ((fun k => [some (.ref (B 0)), some (.int (fsI τ M a (fsO τ M a) k).1), some (.int (nI a)), some (.int (nI (a + 1 + k))), none]) (k + 1)) [] ((fun k => mW B tc (fwS τ (fsI τ M a (fsO τ M a) k))) (k + 1)) → V X D tc cX6_findSwap RX6 5 28 ((fun k => [some (.ref (B 0)), some (.int (fsI τ M a (fsO τ M a) k).1), some (.int (nI a)), some (.int (nI (a + 1 + k))), none]) k) [] ((fun k => mW B tc (fwS τ (fsI τ M a (fsO τ M a) k))) k) := by
      intro k hk ihinn
      obtain ⟨q, hq4, hq⟩ := hw a ha
      obtain ⟨r, hr4, hr⟩ := hw (a + 1 + k) (by omega)
      have hcq : (τ 13 a).toNatClampNeg = q := by rw [hq]; exact nI_clamp (by omega)
      have hcr : (τ 13 (a + 1 + k)).toNatClampNeg = r := by rw [hr]; exact nI_clamp (by omega)
      refine V_ild3 dX6_findSwap_28 ?_
      refine V_ald0 dX6_findSwap_29 ?_
      refine V_get lf_X6_93 dX6_findSwap_30 mW_obj rfl ?_
      refine V_icmp_ge 107 dX6_findSwap_33 (by decide) (fun c33 => ?_) (fun c33 => ?_)
      · exact absurd c33 (ge_no hM (by omega) (by omega))
      · refine V_ald0 dX6_findSwap_36 ?_
        refine V_get lf_X6_41 dX6_findSwap_37 mW_obj rfl ?_
        refine V_ild2 dX6_findSwap_40 ?_
        refine V_zaldk dX6_findSwap_41 mW_a16 ⟨by omega, by decide⟩ ?_
        refine V_if_ne 69 dX6_findSwap_42 (by decide) (fun c42 => ?_) (fun c42 => ?_)
        · refine V_bipush (-9) dX6_findSwap_69 (by decide) ?_
          refine V_goto 80 dX6_findSwap_71 (by decide) ?_
          refine V_top (y := gyM τ M a (a + 1 + k)) (by rw [gyM, hcq, hcr]; first | (rw [if_pos (Or.inl (show ¬ τ 16 a = 0 from c42))]) | (rw [if_pos (Or.inr (Or.inl (show ¬ τ 16 (a + 1 + k) = 0 from c51)))]) | (rw [if_pos (Or.inr (Or.inr (show τ 13 a = τ 13 (a + 1 + k) from c66)))]) | (rw [if_neg (fun h => h.elim (fun h => h c42) (fun h => h.elim (fun h => h c51) (fun h => c66 h)))]; exact gb_fw)) ?_
          refine V_ist4 dX6_findSwap_80 rfl (by decide) ?_
          refine V_ild4 dX6_findSwap_82 ?_
          refine V_ild1 dX6_findSwap_84 ?_
          refine V_icmp_le 101 dX6_findSwap_85 (by decide) (fun c85 => ?_) (fun c85 => ?_)
          · refine V_inc3 (nI (a + 1 + (k + 1))) dX6_findSwap_101 (nI_inc (a + 1 + k)) rfl (by decide) ?_
            refine V_goto 28 dX6_findSwap_104 (by decide) ?_
            refine V_dr4 ?_
            refine V_eq ?_ rfl ?_ ihinn
            · simp only [fsI]
              first | rw [if_pos c85] | rw [if_neg c85]
            · simp only [fsI]
              first | rw [if_pos c85] | (rw [if_neg c85]; exact congrArg (mW B tc) (fw_2 τ _ _ _ _))
          · refine V_ild4 dX6_findSwap_88 ?_
            refine V_ist1 dX6_findSwap_90 rfl (by decide) ?_
            refine V_ald0 dX6_findSwap_91 ?_
            refine V_ild2 dX6_findSwap_92 ?_
            refine V_puti lp_X6_222 dX6_findSwap_93 mW_obj (Nat.le_of_ble_eq_true rfl) (mW_p31 _) ?_
            refine V_ald0 dX6_findSwap_96 ?_
            refine V_ild3 dX6_findSwap_97 ?_
            refine V_puti lp_X6_225 dX6_findSwap_98 mW_obj (Nat.le_of_ble_eq_true rfl) (mW_p32 _) ?_
            refine V_inc3 (nI (a + 1 + (k + 1))) dX6_findSwap_101 (nI_inc (a + 1 + k)) rfl (by decide) ?_
            refine V_goto 28 dX6_findSwap_104 (by decide) ?_
            refine V_dr4 ?_
            refine V_eq ?_ rfl ?_ ihinn
            · simp only [fsI]
              first | rw [if_pos c85] | rw [if_neg c85]
            · simp only [fsI]
              first | rw [if_pos c85] | (rw [if_neg c85]; exact congrArg (mW B tc) (fw_2 τ _ _ _ _))
        · refine V_ald0 dX6_findSwap_45 ?_
          refine V_get lf_X6_41 dX6_findSwap_46 mW_obj rfl ?_
          refine V_ild3 dX6_findSwap_49 ?_
          refine V_zaldk dX6_findSwap_50 mW_a16 ⟨by omega, by decide⟩ ?_
          refine V_if_ne 69 dX6_findSwap_51 (by decide) (fun c51 => ?_) (fun c51 => ?_)
          · refine V_bipush (-9) dX6_findSwap_69 (by decide) ?_
            refine V_goto 80 dX6_findSwap_71 (by decide) ?_
            refine V_top (y := gyM τ M a (a + 1 + k)) (by rw [gyM, hcq, hcr]; first | (rw [if_pos (Or.inl (show ¬ τ 16 a = 0 from c42))]) | (rw [if_pos (Or.inr (Or.inl (show ¬ τ 16 (a + 1 + k) = 0 from c51)))]) | (rw [if_pos (Or.inr (Or.inr (show τ 13 a = τ 13 (a + 1 + k) from c66)))]) | (rw [if_neg (fun h => h.elim (fun h => h c42) (fun h => h.elim (fun h => h c51) (fun h => c66 h)))]; exact gb_fw)) ?_
            refine V_ist4 dX6_findSwap_80 rfl (by decide) ?_
            refine V_ild4 dX6_findSwap_82 ?_
            refine V_ild1 dX6_findSwap_84 ?_
            refine V_icmp_le 101 dX6_findSwap_85 (by decide) (fun c85 => ?_) (fun c85 => ?_)
            · refine V_inc3 (nI (a + 1 + (k + 1))) dX6_findSwap_101 (nI_inc (a + 1 + k)) rfl (by decide) ?_
              refine V_goto 28 dX6_findSwap_104 (by decide) ?_
              refine V_dr4 ?_
              refine V_eq ?_ rfl ?_ ihinn
              · simp only [fsI]
                first | rw [if_pos c85] | rw [if_neg c85]
              · simp only [fsI]
                first | rw [if_pos c85] | (rw [if_neg c85]; exact congrArg (mW B tc) (fw_2 τ _ _ _ _))
            · refine V_ild4 dX6_findSwap_88 ?_
              refine V_ist1 dX6_findSwap_90 rfl (by decide) ?_
              refine V_ald0 dX6_findSwap_91 ?_
              refine V_ild2 dX6_findSwap_92 ?_
              refine V_puti lp_X6_222 dX6_findSwap_93 mW_obj (Nat.le_of_ble_eq_true rfl) (mW_p31 _) ?_
              refine V_ald0 dX6_findSwap_96 ?_
              refine V_ild3 dX6_findSwap_97 ?_
              refine V_puti lp_X6_225 dX6_findSwap_98 mW_obj (Nat.le_of_ble_eq_true rfl) (mW_p32 _) ?_
              refine V_inc3 (nI (a + 1 + (k + 1))) dX6_findSwap_101 (nI_inc (a + 1 + k)) rfl (by decide) ?_
              refine V_goto 28 dX6_findSwap_104 (by decide) ?_
              refine V_dr4 ?_
              refine V_eq ?_ rfl ?_ ihinn
              · simp only [fsI]
                first | rw [if_pos c85] | rw [if_neg c85]
              · simp only [fsI]
                first | rw [if_pos c85] | (rw [if_neg c85]; exact congrArg (mW B tc) (fw_2 τ _ _ _ _))
          · refine V_ald0 dX6_findSwap_54 ?_
            refine V_get lf_X6_32 dX6_findSwap_55 mW_obj rfl ?_
            refine V_ild2 dX6_findSwap_58 ?_
            refine V_ialdk dX6_findSwap_59 mW_a13 ⟨by omega, by decide⟩ ?_
            refine V_ald0 dX6_findSwap_60 ?_
            refine V_get lf_X6_32 dX6_findSwap_61 mW_obj rfl ?_
            refine V_ild3 dX6_findSwap_64 ?_
            refine V_ialdk dX6_findSwap_65 mW_a13 ⟨by omega, by decide⟩ ?_
            refine V_icmp_ne 74 dX6_findSwap_66 (by decide) (fun c66 => ?_) (fun c66 => ?_)
            · refine V_ald0 dX6_findSwap_74 ?_
              refine V_ild2 dX6_findSwap_75 ?_
              refine V_ild3 dX6_findSwap_76 ?_
              refine V_callV lm_X6_228 (mk_gainBy (τ := fwS τ (fsI τ M a (fsO τ M a) k)) hM h6 a (a + 1 + k) q r (by omega) (by omega) hq4 hr4 hq hr) dX6_findSwap_77 mW_obj rfl (dep hX (by decide)) rfl (Nat.le_of_ble_eq_true rfl) ?_
              refine V_top (y := gyM τ M a (a + 1 + k)) (by rw [gyM, hcq, hcr]; first | (rw [if_pos (Or.inl (show ¬ τ 16 a = 0 from c42))]) | (rw [if_pos (Or.inr (Or.inl (show ¬ τ 16 (a + 1 + k) = 0 from c51)))]) | (rw [if_pos (Or.inr (Or.inr (show τ 13 a = τ 13 (a + 1 + k) from c66)))]) | (rw [if_neg (fun h => h.elim (fun h => h c42) (fun h => h.elim (fun h => h c51) (fun h => c66 h)))]; exact gb_fw)) ?_
              refine V_ist4 dX6_findSwap_80 rfl (by decide) ?_
              refine V_ild4 dX6_findSwap_82 ?_
              refine V_ild1 dX6_findSwap_84 ?_
              refine V_icmp_le 101 dX6_findSwap_85 (by decide) (fun c85 => ?_) (fun c85 => ?_)
              · refine V_inc3 (nI (a + 1 + (k + 1))) dX6_findSwap_101 (nI_inc (a + 1 + k)) rfl (by decide) ?_
                refine V_goto 28 dX6_findSwap_104 (by decide) ?_
                refine V_dr4 ?_
                refine V_eq ?_ rfl ?_ ihinn
                · simp only [fsI]
                  first | rw [if_pos c85] | rw [if_neg c85]
                · simp only [fsI]
                  first | rw [if_pos c85] | (rw [if_neg c85]; exact congrArg (mW B tc) (fw_2 τ _ _ _ _))
              · refine V_ild4 dX6_findSwap_88 ?_
                refine V_ist1 dX6_findSwap_90 rfl (by decide) ?_
                refine V_ald0 dX6_findSwap_91 ?_
                refine V_ild2 dX6_findSwap_92 ?_
                refine V_puti lp_X6_222 dX6_findSwap_93 mW_obj (Nat.le_of_ble_eq_true rfl) (mW_p31 _) ?_
                refine V_ald0 dX6_findSwap_96 ?_
                refine V_ild3 dX6_findSwap_97 ?_
                refine V_puti lp_X6_225 dX6_findSwap_98 mW_obj (Nat.le_of_ble_eq_true rfl) (mW_p32 _) ?_
                refine V_inc3 (nI (a + 1 + (k + 1))) dX6_findSwap_101 (nI_inc (a + 1 + k)) rfl (by decide) ?_
                refine V_goto 28 dX6_findSwap_104 (by decide) ?_
                refine V_dr4 ?_
                refine V_eq ?_ rfl ?_ ihinn
                · simp only [fsI]
                  first | rw [if_pos c85] | rw [if_neg c85]
                · simp only [fsI]
                  first | rw [if_pos c85] | (rw [if_neg c85]; exact congrArg (mW B tc) (fw_2 τ _ _ _ _))
            · refine V_bipush (-9) dX6_findSwap_69 (by decide) ?_
              refine V_goto 80 dX6_findSwap_71 (by decide) ?_
              refine V_top (y := gyM τ M a (a + 1 + k)) (by rw [gyM, hcq, hcr]; first | (rw [if_pos (Or.inl (show ¬ τ 16 a = 0 from c42))]) | (rw [if_pos (Or.inr (Or.inl (show ¬ τ 16 (a + 1 + k) = 0 from c51)))]) | (rw [if_pos (Or.inr (Or.inr (show τ 13 a = τ 13 (a + 1 + k) from c66)))]) | (rw [if_neg (fun h => h.elim (fun h => h c42) (fun h => h.elim (fun h => h c51) (fun h => c66 h)))]; exact gb_fw)) ?_
              refine V_ist4 dX6_findSwap_80 rfl (by decide) ?_
              refine V_ild4 dX6_findSwap_82 ?_
              refine V_ild1 dX6_findSwap_84 ?_
              refine V_icmp_le 101 dX6_findSwap_85 (by decide) (fun c85 => ?_) (fun c85 => ?_)
              · refine V_inc3 (nI (a + 1 + (k + 1))) dX6_findSwap_101 (nI_inc (a + 1 + k)) rfl (by decide) ?_
                refine V_goto 28 dX6_findSwap_104 (by decide) ?_
                refine V_dr4 ?_
                refine V_eq ?_ rfl ?_ ihinn
                · simp only [fsI]
                  first | rw [if_pos c85] | rw [if_neg c85]
                · simp only [fsI]
                  first | rw [if_pos c85] | (rw [if_neg c85]; exact congrArg (mW B tc) (fw_2 τ _ _ _ _))
              · refine V_ild4 dX6_findSwap_88 ?_
                refine V_ist1 dX6_findSwap_90 rfl (by decide) ?_
                refine V_ald0 dX6_findSwap_91 ?_
                refine V_ild2 dX6_findSwap_92 ?_
                refine V_puti lp_X6_222 dX6_findSwap_93 mW_obj (Nat.le_of_ble_eq_true rfl) (mW_p31 _) ?_
                refine V_ald0 dX6_findSwap_96 ?_
                refine V_ild3 dX6_findSwap_97 ?_
                refine V_puti lp_X6_225 dX6_findSwap_98 mW_obj (Nat.le_of_ble_eq_true rfl) (mW_p32 _) ?_
                refine V_inc3 (nI (a + 1 + (k + 1))) dX6_findSwap_101 (nI_inc (a + 1 + k)) rfl (by decide) ?_
                refine V_goto 28 dX6_findSwap_104 (by decide) ?_
                refine V_dr4 ?_
                refine V_eq ?_ rfl ?_ ihinn
                · simp only [fsI]
                  first | rw [if_pos c85] | rw [if_neg c85]
                · simp only [fsI]
                  first | rw [if_pos c85] | (rw [if_neg c85]; exact congrArg (mW B tc) (fw_2 τ _ _ _ _))
    have innE : V X D tc cX6_findSwap RX6 5 28 ((fun k => [some (.ref (B 0)), some (.int (fsI τ M a (fsO τ M a) k).1), some (.int (nI a)), some (.int (nI (a + 1 + k))), none]) ((M - (a + 1)))) [] ((fun k => mW B tc (fwS τ (fsI τ M a (fsO τ M a) k))) ((M - (a + 1)))) := by
      refine V_ild3 dX6_findSwap_28 ?_
      refine V_ald0 dX6_findSwap_29 ?_
      refine V_get lf_X6_93 dX6_findSwap_30 mW_obj rfl ?_
      refine V_icmp_ge 107 dX6_findSwap_33 (by decide) (fun c33 => ?_) (fun c33 => ?_)
      · refine V_inc2 (nI (a + 1)) dX6_findSwap_107 (nI_inc a) rfl (by decide) ?_
        refine V_goto 16 dX6_findSwap_110 (by decide) ?_
        refine V_dr3 ?_
        exact ihlp
      · exact absurd (ge_yes (hM.trans (by congr 1; omega))) c33
    have inn := V_for (fun k => [some (.ref (B 0)), some (.int (fsI τ M a (fsO τ M a) k).1), some (.int (nI a)), some (.int (nI (a + 1 + k))), none]) (fun k => mW B tc (fwS τ (fsI τ M a (fsO τ M a) k))) ((M - (a + 1))) innS innE
    refine V_ild2 dX6_findSwap_16 ?_
    refine V_ald0 dX6_findSwap_17 ?_
    refine V_get lf_X6_93 dX6_findSwap_18 mW_obj rfl ?_
    refine V_icmp_ge 113 dX6_findSwap_21 (by decide) (fun c21 => ?_) (fun c21 => ?_)
    · exact absurd c21 (ge_no hM ha (by omega))
    · refine V_ild2 dX6_findSwap_24 ?_
      refine V_iconst 1 dX6_findSwap_25 (by decide) ?_
      refine V_iadd dX6_findSwap_26 ?_
      refine V_top (y := nI (a + 1 + 0)) (nI_1 a) ?_
      refine V_ist3 dX6_findSwap_27 rfl (by decide) ?_
      exact inn 0 (Nat.zero_le _)
  have lpE : V X D tc cX6_findSwap RX6 5 16 ((fun a => [some (.ref (B 0)), some (.int (fsO τ M a).1), some (.int (nI a)), none, none]) (M)) [] ((fun a => mW B tc (fwS τ (fsO τ M a))) (M)) := by
    refine V_ild2 dX6_findSwap_16 ?_
    refine V_ald0 dX6_findSwap_17 ?_
    refine V_get lf_X6_93 dX6_findSwap_18 mW_obj rfl ?_
    refine V_icmp_ge 113 dX6_findSwap_21 (by decide) (fun c21 => ?_) (fun c21 => ?_)
    · refine V_ild1 dX6_findSwap_113 ?_
      refine V_if_ne 122 dX6_findSwap_114 (by decide) (fun c114 => ?_) (fun c114 => ?_)
      · refine V_ild1 dX6_findSwap_122 ?_
        exact V_iret hX dX6_findSwap_123 rfl (by first | rw [if_pos c114] | rw [if_neg c114]) rfl
      · refine V_bipush (-9) dX6_findSwap_117 (by decide) ?_
        refine V_goto 123 dX6_findSwap_119 (by decide) ?_
        exact V_iret hX dX6_findSwap_123 rfl (by first | rw [if_pos c114] | rw [if_neg c114]) rfl
    · exact absurd (ge_yes hM) c21
  have lp := V_for (fun a => [some (.ref (B 0)), some (.int (fsO τ M a).1), some (.int (nI a)), none, none]) (fun a => mW B tc (fwS τ (fsO τ M a))) (M) lpS lpE
  refine V_iconst 0 dX6_findSwap_0 (by decide) ?_
  refine V_ist1 dX6_findSwap_1 rfl (by decide) ?_
  refine V_ald0 dX6_findSwap_2 ?_
  refine V_bipush (-9) dX6_findSwap_3 (by decide) ?_
  refine V_puti lp_X6_222 dX6_findSwap_5 mW_obj (Nat.le_of_ble_eq_true rfl) (mW_p31 _) ?_
  refine V_ald0 dX6_findSwap_8 ?_
  refine V_bipush (-9) dX6_findSwap_9 (by decide) ?_
  refine V_puti lp_X6_225 dX6_findSwap_11 mW_obj (Nat.le_of_ble_eq_true rfl) (mW_p32 _) ?_
  refine V_iconst 0 dX6_findSwap_14 (by decide) ?_
  refine V_ist2 dX6_findSwap_15 rfl (by decide) ?_
  exact lp 0 (Nat.zero_le _)
set_option maxRecDepth 100000 in
set_option maxHeartbeats 4000000 in
theorem mk_swap (hM : τ 6 0 = nI M) (h6 : M ≤ 6) (hw : ∀ m, m < M → ∃ q, q < 4 ∧ τ 13 m = nI q) (w : Int32) : Ok 5 yX6_swap cX6_swap 3 (some .int) D tc [.ref (B 0), .int w] (mW B tc τ) (some (.int (Rm_swap τ M w))) (mW B tc (Sm_swap τ M w)) := by
  refine Ok_of RX6 rfl (by decide) [some (.ref (B 0)), some (.int w), none] rfl (Nat.le_of_ble_eq_true rfl) ?_
  intro X hX
  refine V_ild1 dX6_swap_0 ?_
  refine V_iconst 0 dX6_swap_1 (by decide) ?_
  refine V_iconst 2 dX6_swap_2 (by decide) ?_
  refine V_callS ls_X6_86 (mk_within _ _ _) dX6_swap_3 (dep hX (by decide)) rfl (Nat.le_of_ble_eq_true rfl) ?_
  refine V_if_ne 12 dX6_swap_6 (by decide) (fun c6 => ?_) (fun c6 => ?_)
  · try rw [b2i_ne] at c6
    try rw [Decidable.not_not] at c6
    refine V_ald0 dX6_swap_12 ?_
    refine V_get lf_X6_90 dX6_swap_13 mW_obj rfl ?_
    refine V_if_ne 22 dX6_swap_16 (by decide) (fun c16 => ?_) (fun c16 => ?_)
    · refine V_ald0 dX6_swap_22 ?_
      refine V_callV lm_X6_231 (mk_findSwap hM h6 hw) dX6_swap_23 mW_obj rfl (dep hX (by decide)) rfl (Nat.le_of_ble_eq_true rfl) ?_
      refine V_ist2 dX6_swap_26 rfl (by decide) ?_
      refine V_ild1 dX6_swap_27 ?_
      refine V_if_ne 35 dX6_swap_28 (by decide) (fun c28 => ?_) (fun c28 => ?_)
      · refine V_ild1 dX6_swap_35 ?_
        refine V_iconst 1 dX6_swap_36 (by decide) ?_
        refine V_icmp_ne 47 dX6_swap_37 (by decide) (fun c37 => ?_) (fun c37 => ?_)
        · refine V_ald0 dX6_swap_47 ?_
          refine V_get lf_X6_225 dX6_swap_48 mW_obj rfl ?_
          exact V_iret hX dX6_swap_51 rfl (by (try first | replace c6 := eq_false c6 | replace c6 := eq_true c6); (try first | replace c16 := eq_false c16 | replace c16 := eq_true c16); (try first | replace c28 := eq_false c28 | replace c28 := eq_true c28); (try first | replace c37 := eq_false c37 | replace c37 := eq_true c37); simp only [Rm_swap, c6, c16, c28, c37, not_true_eq_false, not_false_eq_true, and_self, true_and, and_true, false_and, and_false, true_or, or_true, false_or, or_false, or_self, ↓reduceIte]; try rfl) (congrArg (mW B tc) (by (try first | replace c6 := eq_false c6 | replace c6 := eq_true c6); (try first | replace c16 := eq_false c16 | replace c16 := eq_true c16); (try first | replace c28 := eq_false c28 | replace c28 := eq_true c28); (try first | replace c37 := eq_false c37 | replace c37 := eq_true c37); simp only [Sm_swap, c6, c16, c28, c37, not_true_eq_false, not_false_eq_true, and_self, true_and, and_true, false_and, and_false, true_or, or_true, false_or, or_false, or_self, ↓reduceIte]))
        · refine V_ald0 dX6_swap_40 ?_
          refine V_get lf_X6_222 dX6_swap_41 mW_obj rfl ?_
          refine V_goto 51 dX6_swap_44 (by decide) ?_
          exact V_iret hX dX6_swap_51 rfl (by (try first | replace c6 := eq_false c6 | replace c6 := eq_true c6); (try first | replace c16 := eq_false c16 | replace c16 := eq_true c16); (try first | replace c28 := eq_false c28 | replace c28 := eq_true c28); (try first | replace c37 := eq_false c37 | replace c37 := eq_true c37); simp only [Rm_swap, c6, c16, c28, c37, not_true_eq_false, not_false_eq_true, and_self, true_and, and_true, false_and, and_false, true_or, or_true, false_or, or_false, or_self, ↓reduceIte]; try rfl) (congrArg (mW B tc) (by (try first | replace c6 := eq_false c6 | replace c6 := eq_true c6); (try first | replace c16 := eq_false c16 | replace c16 := eq_true c16); (try first | replace c28 := eq_false c28 | replace c28 := eq_true c28); (try first | replace c37 := eq_false c37 | replace c37 := eq_true c37); simp only [Sm_swap, c6, c16, c28, c37, not_true_eq_false, not_false_eq_true, and_self, true_and, and_true, false_and, and_false, true_or, or_true, false_or, or_false, or_self, ↓reduceIte]))
      · refine V_ild2 dX6_swap_31 ?_
        refine V_goto 51 dX6_swap_32 (by decide) ?_
        exact V_iret hX dX6_swap_51 rfl (by (try first | replace c6 := eq_false c6 | replace c6 := eq_true c6); (try first | replace c16 := eq_false c16 | replace c16 := eq_true c16); (try first | replace c28 := eq_false c28 | replace c28 := eq_true c28); simp only [Rm_swap, c6, c16, c28, not_true_eq_false, not_false_eq_true, and_self, true_and, and_true, false_and, and_false, true_or, or_true, false_or, or_false, or_self, ↓reduceIte]; try rfl) (congrArg (mW B tc) (by (try first | replace c6 := eq_false c6 | replace c6 := eq_true c6); (try first | replace c16 := eq_false c16 | replace c16 := eq_true c16); (try first | replace c28 := eq_false c28 | replace c28 := eq_true c28); simp only [Sm_swap, c6, c16, c28, not_true_eq_false, not_false_eq_true, and_self, true_and, and_true, false_and, and_false, true_or, or_true, false_or, or_false, or_self, ↓reduceIte]))
    · refine V_bipush (-3) dX6_swap_19 (by decide) ?_
      exact V_iret hX dX6_swap_21 rfl (by (try first | replace c6 := eq_false c6 | replace c6 := eq_true c6); (try first | replace c16 := eq_false c16 | replace c16 := eq_true c16); simp only [Rm_swap, c6, c16, not_true_eq_false, not_false_eq_true, and_self, true_and, and_true, false_and, and_false, true_or, or_true, false_or, or_false, or_self, ↓reduceIte]; try rfl) (congrArg (mW B tc) (by (try first | replace c6 := eq_false c6 | replace c6 := eq_true c6); (try first | replace c16 := eq_false c16 | replace c16 := eq_true c16); simp only [Sm_swap, c6, c16, not_true_eq_false, not_false_eq_true, and_self, true_and, and_true, false_and, and_false, true_or, or_true, false_or, or_false, or_self, ↓reduceIte]))
  · try rw [b2i_eq] at c6
    try rw [Decidable.not_not] at c6
    refine V_bipush (-2) dX6_swap_9 (by decide) ?_
    exact V_iret hX dX6_swap_11 rfl (by (try first | replace c6 := eq_false c6 | replace c6 := eq_true c6); simp only [Rm_swap, c6, not_true_eq_false, not_false_eq_true, and_self, true_and, and_true, false_and, and_false, true_or, or_true, false_or, or_false, or_self, ↓reduceIte]; try rfl) (congrArg (mW B tc) (by (try first | replace c6 := eq_false c6 | replace c6 := eq_true c6); simp only [Sm_swap, c6, not_true_eq_false, not_false_eq_true, and_self, true_and, and_true, false_and, and_false, true_or, or_true, false_or, or_false, or_self, ↓reduceIte]))
set_option maxRecDepth 100000 in
set_option maxHeartbeats 4000000 in
theorem mk_reading (hM : τ 6 0 = nI M) (h6 : M ≤ 6) (hC : τ 33 0 = nI C) (h8 : C ≤ 8) (m t v : Int32) : Ok 1 yX6_reading cX6_reading 4 (some .int) D tc [.ref (B 0), .int m, .int t, .int v] (mW B tc τ) (some (.int (Rm_reading τ m t v))) (mW B tc (Sm_reading τ m t v)) := by
  refine Ok_of RX6 rfl (by decide) [some (.ref (B 0)), some (.int m), some (.int t), some (.int v)] rfl (Nat.le_of_ble_eq_true rfl) ?_
  intro X hX
  refine V_ald0 dX6_reading_0 ?_
  refine V_ild1 dX6_reading_1 ?_
  refine V_callV lm_X6_156 (mk_isMorning _) dX6_reading_2 mW_obj rfl (dep hX (by decide)) rfl (Nat.le_of_ble_eq_true rfl) ?_
  refine V_if_ne 10 dX6_reading_5 (by decide) (fun c5 => ?_) (fun c5 => ?_)
  · try rw [b2i_ne] at c5
    try rw [Decidable.not_not] at c5
    obtain ⟨k, hk, ek⟩ := isP_of hM (by omega) c5
    subst ek
    have hck : (nI k).toNatClampNeg = k := nI_clamp (by omega)
    refine V_ild2 dX6_reading_10 ?_
    refine V_iconst 0 dX6_reading_11 (by decide) ?_
    refine V_bipush 99 dX6_reading_12 (by decide) ?_
    refine V_callS ls_X6_86 (mk_within _ _ _) dX6_reading_14 (dep hX (by decide)) rfl (Nat.le_of_ble_eq_true rfl) ?_
    refine V_if_eq 30 dX6_reading_17 (by decide) (fun c17 => ?_) (fun c17 => ?_)
    · try rw [b2i_eq] at c17
      try rw [Decidable.not_not] at c17
      refine V_bipush (-2) dX6_reading_30 (by decide) ?_
      exact V_iret hX dX6_reading_32 rfl (by (try first | replace c5 := eq_false c5 | replace c5 := eq_true c5); (try first | replace c17 := eq_false c17 | replace c17 := eq_true c17); simp only [Rm_reading, c5, c17, not_true_eq_false, not_false_eq_true, and_self, true_and, and_true, false_and, and_false, true_or, or_true, false_or, or_false, or_self, ↓reduceIte]) (congrArg (mW B tc) (by (try first | replace c5 := eq_false c5 | replace c5 := eq_true c5); (try first | replace c17 := eq_false c17 | replace c17 := eq_true c17); simp only [Sm_reading, c5, c17, not_true_eq_false, not_false_eq_true, and_self, true_and, and_true, false_and, and_false, true_or, or_true, false_or, or_false, or_self, ↓reduceIte]))
    · try rw [b2i_ne] at c17
      try rw [Decidable.not_not] at c17
      refine V_ild3 dX6_reading_20 ?_
      refine V_iconst 0 dX6_reading_21 (by decide) ?_
      refine V_bipush 9 dX6_reading_22 (by decide) ?_
      refine V_callS ls_X6_86 (mk_within _ _ _) dX6_reading_24 (dep hX (by decide)) rfl (Nat.le_of_ble_eq_true rfl) ?_
      refine V_if_ne 33 dX6_reading_27 (by decide) (fun c27 => ?_) (fun c27 => ?_)
      · try rw [b2i_ne] at c27
        try rw [Decidable.not_not] at c27
        refine V_ald0 dX6_reading_33 ?_
        refine V_get lf_X6_135 dX6_reading_34 mW_obj rfl ?_
        refine V_bipush 8 dX6_reading_37 (by decide) ?_
        refine V_icmp_ne 45 dX6_reading_39 (by decide) (fun c39 => ?_) (fun c39 => ?_)
        · have h8' : C < 8 := by
            rcases Nat.lt_or_ge C 8 with z | z
            · exact z
            · exact absurd (by rw [hC, show C = 8 by omega]; decide) c39
          have hcC : (τ 33 0).toNatClampNeg = C := by rw [hC]; exact nI_clamp (by omega)
          refine V_ald0 dX6_reading_45 ?_
          refine V_get lf_X6_71 dX6_reading_46 mW_obj rfl ?_
          refine V_ald0 dX6_reading_49 ?_
          refine V_get lf_X6_135 dX6_reading_50 mW_obj rfl ?_
          refine V_top (y := nI C) hC ?_
          refine V_ild1 dX6_reading_53 ?_
          refine V_iastk dX6_reading_54 mW_a34 ⟨h8', by decide⟩ (mW_a34s _ _) ?_
          refine V_ald0 dX6_reading_55 ?_
          refine V_get lf_X6_74 dX6_reading_56 mW_obj rfl ?_
          refine V_ald0 dX6_reading_59 ?_
          refine V_get lf_X6_135 dX6_reading_60 mW_obj rfl ?_
          refine V_top (y := nI C) hC ?_
          refine V_ild2 dX6_reading_63 ?_
          refine V_iastk dX6_reading_64 mW_a35 ⟨h8', by decide⟩ (mW_a35s _ _) ?_
          refine V_ald0 dX6_reading_65 ?_
          refine V_get lf_X6_77 dX6_reading_66 mW_obj rfl ?_
          refine V_ald0 dX6_reading_69 ?_
          refine V_get lf_X6_135 dX6_reading_70 mW_obj rfl ?_
          refine V_top (y := nI C) hC ?_
          refine V_ild3 dX6_reading_73 ?_
          refine V_iastk dX6_reading_74 mW_a36 ⟨h8', by decide⟩ (mW_a36s _ _) ?_
          refine V_ald0 dX6_reading_75 ?_
          refine V_dupa dX6_reading_76 ?_
          refine V_get lf_X6_135 dX6_reading_77 mW_obj rfl ?_
          refine V_iconst 1 dX6_reading_80 (by decide) ?_
          refine V_iadd dX6_reading_81 ?_
          refine V_puti lp_X6_135 dX6_reading_82 mW_obj (Nat.le_of_ble_eq_true rfl) (mW_p33 _) ?_
          refine V_ald0 dX6_reading_85 ?_
          refine V_get lf_X6_135 dX6_reading_86 mW_obj rfl ?_
          refine V_iconst 1 dX6_reading_89 (by decide) ?_
          refine V_isub dX6_reading_90 ?_
          refine V_top (y := τ 33 0) (by show τ 33 0 + 1 - 1 = _; exact add_sub1 _) ?_
          exact V_iret hX dX6_reading_91 rfl (by (try first | replace c5 := eq_false c5 | replace c5 := eq_true c5); (try first | replace c17 := eq_false c17 | replace c17 := eq_true c17); (try first | replace c27 := eq_false c27 | replace c27 := eq_true c27); (try first | replace c39 := eq_false c39 | replace c39 := eq_true c39); simp only [Rm_reading, c5, c17, c27, c39, not_true_eq_false, not_false_eq_true, and_self, true_and, and_true, false_and, and_false, true_or, or_true, false_or, or_false, or_self, ↓reduceIte]) (congrArg (mW B tc) (by (try first | replace c5 := eq_false c5 | replace c5 := eq_true c5); (try first | replace c17 := eq_false c17 | replace c17 := eq_true c17); (try first | replace c27 := eq_false c27 | replace c27 := eq_true c27); (try first | replace c39 := eq_false c39 | replace c39 := eq_true c39); simp only [Sm_reading, hcC, c5, c17, c27, c39, not_true_eq_false, not_false_eq_true, and_self, true_and, and_true, false_and, and_false, true_or, or_true, false_or, or_false, or_self, ↓reduceIte]; rfl))
        · refine V_bipush (-4) dX6_reading_42 (by decide) ?_
          exact V_iret hX dX6_reading_44 rfl (by (try first | replace c5 := eq_false c5 | replace c5 := eq_true c5); (try first | replace c17 := eq_false c17 | replace c17 := eq_true c17); (try first | replace c27 := eq_false c27 | replace c27 := eq_true c27); (try first | replace c39 := eq_false c39 | replace c39 := eq_true c39); simp only [Rm_reading, c5, c17, c27, c39, not_true_eq_false, not_false_eq_true, and_self, true_and, and_true, false_and, and_false, true_or, or_true, false_or, or_false, or_self, ↓reduceIte]) (congrArg (mW B tc) (by (try first | replace c5 := eq_false c5 | replace c5 := eq_true c5); (try first | replace c17 := eq_false c17 | replace c17 := eq_true c17); (try first | replace c27 := eq_false c27 | replace c27 := eq_true c27); (try first | replace c39 := eq_false c39 | replace c39 := eq_true c39); simp only [Sm_reading, c5, c17, c27, c39, not_true_eq_false, not_false_eq_true, and_self, true_and, and_true, false_and, and_false, true_or, or_true, false_or, or_false, or_self, ↓reduceIte]))
      · try rw [b2i_eq] at c27
        try rw [Decidable.not_not] at c27
        refine V_bipush (-2) dX6_reading_30 (by decide) ?_
        exact V_iret hX dX6_reading_32 rfl (by (try first | replace c5 := eq_false c5 | replace c5 := eq_true c5); (try first | replace c17 := eq_false c17 | replace c17 := eq_true c17); (try first | replace c27 := eq_false c27 | replace c27 := eq_true c27); simp only [Rm_reading, c5, c17, c27, not_true_eq_false, not_false_eq_true, and_self, true_and, and_true, false_and, and_false, true_or, or_true, false_or, or_false, or_self, ↓reduceIte]) (congrArg (mW B tc) (by (try first | replace c5 := eq_false c5 | replace c5 := eq_true c5); (try first | replace c17 := eq_false c17 | replace c17 := eq_true c17); (try first | replace c27 := eq_false c27 | replace c27 := eq_true c27); simp only [Sm_reading, c5, c17, c27, not_true_eq_false, not_false_eq_true, and_self, true_and, and_true, false_and, and_false, true_or, or_true, false_or, or_false, or_self, ↓reduceIte]))
  · try rw [b2i_eq] at c5
    try rw [Decidable.not_not] at c5
    refine V_iconst (-1) dX6_reading_8 (by decide) ?_
    exact V_iret hX dX6_reading_9 rfl (by (try first | replace c5 := eq_false c5 | replace c5 := eq_true c5); simp only [Rm_reading, c5, not_true_eq_false, not_false_eq_true, and_self, true_and, and_true, false_and, and_false, true_or, or_true, false_or, or_false, or_self, ↓reduceIte]) (congrArg (mW B tc) (by (try first | replace c5 := eq_false c5 | replace c5 := eq_true c5); simp only [Sm_reading, c5, not_true_eq_false, not_false_eq_true, and_self, true_and, and_true, false_and, and_false, true_or, or_true, false_or, or_false, or_self, ↓reduceIte]))
set_option maxRecDepth 100000 in
set_option maxHeartbeats 4000000 in
theorem mk_back (k : Int32) : Ok 1 yX6_back cX6_back 2 (some .int) D tc [.ref (B 0), .int k] (mW B tc τ) (some (.int (Rm_back τ k))) (mW B tc (Sm_back τ k)) := by
  refine Ok_of RX6 rfl (by decide) [some (.ref (B 0)), some (.int k)] rfl (Nat.le_of_ble_eq_true rfl) ?_
  intro X hX
  refine V_ild1 dX6_back_0 ?_
  refine V_iconst 0 dX6_back_1 (by decide) ?_
  refine V_ald0 dX6_back_2 ?_
  refine V_get lf_X6_135 dX6_back_3 mW_obj rfl ?_
  refine V_callS ls_X6_86 (mk_within _ _ _) dX6_back_6 (dep hX (by decide)) rfl (Nat.le_of_ble_eq_true rfl) ?_
  refine V_if_ne 15 dX6_back_9 (by decide) (fun c9 => ?_) (fun c9 => ?_)
  · try rw [b2i_ne] at c9
    try rw [Decidable.not_not] at c9
    refine V_ald0 dX6_back_15 ?_
    refine V_dupa dX6_back_16 ?_
    refine V_get lf_X6_135 dX6_back_17 mW_obj rfl ?_
    refine V_ild1 dX6_back_20 ?_
    refine V_isub dX6_back_21 ?_
    refine V_puti lp_X6_135 dX6_back_22 mW_obj (Nat.le_of_ble_eq_true rfl) (mW_p33 _) ?_
    refine V_ald0 dX6_back_25 ?_
    refine V_get lf_X6_135 dX6_back_26 mW_obj rfl ?_
    refine V_top (y := τ 33 0 - k) rfl ?_
    exact V_iret hX dX6_back_29 rfl (by (try first | replace c9 := eq_false c9 | replace c9 := eq_true c9); simp only [Rm_back, c9, not_true_eq_false, not_false_eq_true, and_self, true_and, and_true, false_and, and_false, true_or, or_true, false_or, or_false, or_self, ↓reduceIte]) (congrArg (mW B tc) (by (try first | replace c9 := eq_false c9 | replace c9 := eq_true c9); simp only [Sm_back, c9, not_true_eq_false, not_false_eq_true, and_self, true_and, and_true, false_and, and_false, true_or, or_true, false_or, or_false, or_self, ↓reduceIte]))
  · try rw [b2i_eq] at c9
    try rw [Decidable.not_not] at c9
    refine V_bipush (-2) dX6_back_12 (by decide) ?_
    exact V_iret hX dX6_back_14 rfl (by (try first | replace c9 := eq_false c9 | replace c9 := eq_true c9); simp only [Rm_back, c9, not_true_eq_false, not_false_eq_true, and_self, true_and, and_true, false_and, and_false, true_or, or_true, false_or, or_false, or_self, ↓reduceIte]) (congrArg (mW B tc) (by (try first | replace c9 := eq_false c9 | replace c9 := eq_true c9); simp only [Sm_back, c9, not_true_eq_false, not_false_eq_true, and_self, true_and, and_true, false_and, and_false, true_or, or_true, false_or, or_false, or_self, ↓reduceIte]))
set_option maxRecDepth 100000 in
set_option maxHeartbeats 4000000 in
theorem mk_areSo (hC : τ 33 0 = nI C) (h8 : C ≤ 8) (hr : ∀ r, r < C → ∃ z, z < 6 ∧ τ 34 r = nI z) : Ok 1 yX6_areSo cX6_areSo 2 (some .boolean) D tc [.ref (B 0)] (mW B tc τ) (some (.int (b2i (asA τ C)))) (mW B tc τ) := by
  refine Ok_of RX6 rfl (by decide) [some (.ref (B 0)), none] rfl (Nat.le_of_ble_eq_true rfl) ?_
  intro X hX
  have lpS : ∀ k, k < C → (fun k => ∀ r, r < k → frM τ (τ 34 r).toNatClampNeg (τ 35 r) = τ 36 r) k → ((fun k => ∀ r, r < k → frM τ (τ 34 r).toNatClampNeg (τ 35 r) = τ 36 r) (k + 1) → V X D tc cX6_areSo RX6 2 2 ((fun k => [some (.ref (B 0)), some (.int (nI k))]) (k + 1)) [] ((fun k => mW B tc τ) (k + 1))) → V X D tc cX6_areSo RX6 2 2 ((fun k => [some (.ref (B 0)), some (.int (nI k))]) k) [] ((fun k => mW B tc τ) k) := by
    intro k hk invlp ihlp
    try dsimp only at invlp
    have hk8 : k < 8 := by omega
    obtain ⟨z, hz, ez⟩ := hr k hk
    have hcz : (τ 34 k).toNatClampNeg = z := by rw [ez]; exact nI_clamp (by omega)
    refine V_ild1 dX6_areSo_2 ?_
    refine V_ald0 dX6_areSo_3 ?_
    refine V_get lf_X6_135 dX6_areSo_4 mW_obj rfl ?_
    refine V_icmp_ge 43 dX6_areSo_7 (by decide) (fun c7 => ?_) (fun c7 => ?_)
    · exact absurd c7 (ge_no hC hk (by omega))
    · refine V_ald0 dX6_areSo_10 ?_
      refine V_ald0 dX6_areSo_11 ?_
      refine V_get lf_X6_71 dX6_areSo_12 mW_obj rfl ?_
      refine V_ild1 dX6_areSo_15 ?_
      refine V_ialdk dX6_areSo_16 mW_a34 ⟨hk8, by decide⟩ ?_
      refine V_top (y := nI z) ez ?_
      refine V_ald0 dX6_areSo_17 ?_
      refine V_get lf_X6_74 dX6_areSo_18 mW_obj rfl ?_
      refine V_ild1 dX6_areSo_21 ?_
      refine V_ialdk dX6_areSo_22 mW_a35 ⟨hk8, by decide⟩ ?_
      refine V_callV lm_X6_152 (mk_freshOn z hz _) dX6_areSo_23 mW_obj rfl (dep hX (by decide)) rfl (Nat.le_of_ble_eq_true rfl) ?_
      refine V_ald0 dX6_areSo_26 ?_
      refine V_get lf_X6_77 dX6_areSo_27 mW_obj rfl ?_
      refine V_ild1 dX6_areSo_30 ?_
      refine V_ialdk dX6_areSo_31 mW_a36 ⟨hk8, by decide⟩ ?_
      refine V_icmp_eq 37 dX6_areSo_32 (by decide) (fun c32 => ?_) (fun c32 => ?_)
      · refine V_inc1 (nI (k + 1)) dX6_areSo_37 (nI_inc k) rfl (by decide) ?_
        refine V_goto 2 dX6_areSo_40 (by decide) ?_
        exact ihlp (lt_s invlp (by rw [hcz]; exact c32))
      · refine V_iconst 0 dX6_areSo_35 (by decide) ?_
        exact V_zret hX dX6_areSo_36 rfl (by first | exact Or.inl rfl | exact Or.inr rfl) (by rw [b2i_f (fun h => c32 (by have := h k hk; rw [hcz] at this; exact this))]) rfl
  have lpE : (fun k => ∀ r, r < k → frM τ (τ 34 r).toNatClampNeg (τ 35 r) = τ 36 r) (C) → V X D tc cX6_areSo RX6 2 2 ((fun k => [some (.ref (B 0)), some (.int (nI k))]) (C)) [] ((fun k => mW B tc τ) (C)) := by
    intro invlp
    try dsimp only at invlp
    refine V_ild1 dX6_areSo_2 ?_
    refine V_ald0 dX6_areSo_3 ?_
    refine V_get lf_X6_135 dX6_areSo_4 mW_obj rfl ?_
    refine V_icmp_ge 43 dX6_areSo_7 (by decide) (fun c7 => ?_) (fun c7 => ?_)
    · refine V_iconst 1 dX6_areSo_43 (by decide) ?_
      exact V_zret hX dX6_areSo_44 rfl (by first | exact Or.inl rfl | exact Or.inr rfl) (by rw [b2i_t invlp]) rfl
    · exact absurd (ge_yes hC) c7
  have lp := V_forI (fun k => ∀ r, r < k → frM τ (τ 34 r).toNatClampNeg (τ 35 r) = τ 36 r) (fun k => [some (.ref (B 0)), some (.int (nI k))]) (fun k => mW B tc τ) (C) lpS lpE
  refine V_iconst 0 dX6_areSo_0 (by decide) ?_
  refine V_ist1 dX6_areSo_1 rfl (by decide) ?_
  exact lp 0 (Nat.zero_le _) (fun r h => absurd h (by omega))
set_option maxRecDepth 100000 in
set_option maxHeartbeats 4000000 in
theorem lm_dews (hC : τ 33 0 = nI C) (h8 : C ≤ 8) (hr : ∀ r, r < C → ∃ z, z < 6 ∧ τ 34 r = nI z) {X : Cx} {m : Nat} (hm6 : m < 6) (hX : Aim X D (some .int) 2 (some (.int (vxM τ 15 m C 10))) (mW B tc τ)) : V X D tc cX6_dews RX6 5 22 [some (.ref (B 0)), some (.int (nI m)), some (.int (τ 15 m)), some (.int 0), some (.int 0)] [] (mW B tc τ) := by
  have lpS : ∀ k, k < 10 → V X D tc cX6_dews RX6 5 22 ((fun k => [some (.ref (B 0)), some (.int (nI m)), some (.int (τ 15 m)), some (.int (vxM τ 15 m C k)), some (.int (nI k))]) (k + 1)) [] ((fun k => mW B tc (vxW τ 15 m k)) (k + 1)) → V X D tc cX6_dews RX6 5 22 ((fun k => [some (.ref (B 0)), some (.int (nI m)), some (.int (τ 15 m)), some (.int (vxM τ 15 m C k)), some (.int (nI k))]) k) [] ((fun k => mW B tc (vxW τ 15 m k)) k) := by
    intro k hk ihlp
    refine V_ild4 dX6_dews_22 ?_
    refine V_bipush 9 dX6_dews_24 (by decide) ?_
    refine V_icmp_gt 61 dX6_dews_26 (by decide) (fun c26 => ?_) (fun c26 => ?_)
    · exact absurd c26 (G9 hk)
    · refine V_ald0 dX6_dews_29 ?_
      refine V_get lf_X6_38 dX6_dews_30 mW_obj rfl ?_
      refine V_ild1 dX6_dews_33 ?_
      refine V_ild4 dX6_dews_34 ?_
      refine V_iastk dX6_dews_36 mW_a15 ⟨hm6, by decide⟩ (mW_a15s _ _) ?_
      rw [vxW_s]
      refine V_ild3 dX6_dews_37 ?_
      refine V_ald0 dX6_dews_38 ?_
      refine V_callV lm_X6_235 (mk_areSo (τ := um τ 15 m (nI k)) (C := C) hC h8 hr) dX6_dews_39 mW_obj rfl (dep hX (by decide)) rfl (Nat.le_of_ble_eq_true rfl) ?_
      refine V_if_eq 52 dX6_dews_42 (by decide) (fun c42 => ?_) (fun c42 => ?_)
      · try rw [b2i_eq] at c42
        try rw [Decidable.not_not] at c42
        refine V_iconst 0 dX6_dews_52 (by decide) ?_
        refine V_ior dX6_dews_53 ?_
        refine V_ist3 dX6_dews_54 rfl (by decide) ?_
        refine V_inc4 (nI (k + 1)) dX6_dews_55 (nI_inc k) rfl (by decide) ?_
        refine V_goto 22 dX6_dews_58 (by decide) ?_
        refine V_eq ?_ rfl rfl ihlp
        simp only [vxM, oneI]
        first | rw [if_pos c42] | rw [if_neg c42]
      · try rw [b2i_ne] at c42
        try rw [Decidable.not_not] at c42
        refine V_iconst 1 dX6_dews_45 (by decide) ?_
        refine V_ild4 dX6_dews_46 ?_
        refine V_ishl dX6_dews_48 ?_
        refine V_goto 53 dX6_dews_49 (by decide) ?_
        refine V_ior dX6_dews_53 ?_
        refine V_ist3 dX6_dews_54 rfl (by decide) ?_
        refine V_inc4 (nI (k + 1)) dX6_dews_55 (nI_inc k) rfl (by decide) ?_
        refine V_goto 22 dX6_dews_58 (by decide) ?_
        refine V_eq ?_ rfl rfl ihlp
        simp only [vxM, oneI]
        first | rw [if_pos c42] | rw [if_neg c42]
  have lpE : V X D tc cX6_dews RX6 5 22 ((fun k => [some (.ref (B 0)), some (.int (nI m)), some (.int (τ 15 m)), some (.int (vxM τ 15 m C k)), some (.int (nI k))]) (10)) [] ((fun k => mW B tc (vxW τ 15 m k)) (10)) := by
    refine V_ild4 dX6_dews_22 ?_
    refine V_bipush 9 dX6_dews_24 (by decide) ?_
    refine V_icmp_gt 61 dX6_dews_26 (by decide) (fun c26 => ?_) (fun c26 => ?_)
    · refine V_ald0 dX6_dews_61 ?_
      refine V_get lf_X6_38 dX6_dews_62 mW_obj rfl ?_
      refine V_ild1 dX6_dews_65 ?_
      refine V_ild2 dX6_dews_66 ?_
      refine V_iastk dX6_dews_67 mW_a15 ⟨hm6, by decide⟩ (mW_a15s _ _) ?_
      refine V_ild3 dX6_dews_68 ?_
      exact V_iret hX dX6_dews_69 rfl rfl (congrArg (mW B tc) (by rw [vxW_s]; exact (um_self τ 15 m).symm))
    · exact absurd G9e c26
  have lp := V_for (fun k => [some (.ref (B 0)), some (.int (nI m)), some (.int (τ 15 m)), some (.int (vxM τ 15 m C k)), some (.int (nI k))]) (fun k => mW B tc (vxW τ 15 m k)) (10) lpS lpE
  exact lp 0 (Nat.zero_le _)
set_option maxRecDepth 100000 in
set_option maxHeartbeats 4000000 in
theorem mk_dews (hM : τ 6 0 = nI M) (h6 : M ≤ 6) (hC : τ 33 0 = nI C) (h8 : C ≤ 8) (hr : ∀ r, r < C → ∃ z, z < 6 ∧ τ 34 r = nI z) (m : Int32) : Ok 2 yX6_dews cX6_dews 5 (some .int) D tc [.ref (B 0), .int m] (mW B tc τ) (some (.int (Rm_dews τ C m))) (mW B tc τ) := by
  refine Ok_of RX6 rfl (by decide) [some (.ref (B 0)), some (.int m), none, none, none] rfl (Nat.le_of_ble_eq_true rfl) ?_
  intro X hX
  refine V_ald0 dX6_dews_0 ?_
  refine V_ild1 dX6_dews_1 ?_
  refine V_callV lm_X6_156 (mk_isMorning _) dX6_dews_2 mW_obj rfl (dep hX (by decide)) rfl (Nat.le_of_ble_eq_true rfl) ?_
  refine V_if_ne 10 dX6_dews_5 (by decide) (fun c5 => ?_) (fun c5 => ?_)
  · try rw [b2i_ne] at c5
    try rw [Decidable.not_not] at c5
    obtain ⟨k, hk, ek⟩ := isP_of hM (by omega) c5
    subst ek
    have hck : (nI k).toNatClampNeg = k := nI_clamp (by omega)
    refine V_ald0 dX6_dews_10 ?_
    refine V_get lf_X6_38 dX6_dews_11 mW_obj rfl ?_
    refine V_ild1 dX6_dews_14 ?_
    refine V_ialdk dX6_dews_15 mW_a15 ⟨by omega, by decide⟩ ?_
    refine V_ist2 dX6_dews_16 rfl (by decide) ?_
    refine V_iconst 0 dX6_dews_17 (by decide) ?_
    refine V_ist3 dX6_dews_18 rfl (by decide) ?_
    refine V_iconst 0 dX6_dews_19 (by decide) ?_
    refine V_ist4 dX6_dews_20 rfl (by decide) ?_
    refine lm_dews hC h8 hr (by omega) ?_
    have e : Rm_dews τ C (nI k) = vxM τ 15 k C 10 := by rw [Rm_dews, if_pos c5, hck]
    rw [← e]
    exact hX
  · try rw [b2i_eq] at c5
    try rw [Decidable.not_not] at c5
    refine V_iconst (-1) dX6_dews_8 (by decide) ?_
    exact V_iret hX dX6_dews_9 rfl (by (try first | replace c5 := eq_false c5 | replace c5 := eq_true c5); simp only [Rm_dews, c5, not_true_eq_false, not_false_eq_true, and_self, true_and, and_true, false_and, and_false, true_or, or_true, false_or, or_false, or_self, ↓reduceIte]) rfl
set_option maxRecDepth 100000 in
set_option maxHeartbeats 4000000 in
theorem lm_kinds (hC : τ 33 0 = nI C) (h8 : C ≤ 8) (hr : ∀ r, r < C → ∃ z, z < 6 ∧ τ 34 r = nI z) {X : Cx} {m : Nat} (hm6 : m < 6) (hX : Aim X D (some .int) 2 (some (.int (vxM τ 12 m C 3))) (mW B tc τ)) : V X D tc cX6_kinds RX6 5 22 [some (.ref (B 0)), some (.int (nI m)), some (.int (τ 12 m)), some (.int 0), some (.int 0)] [] (mW B tc τ) := by
  have lpS : ∀ k, k < 3 → V X D tc cX6_kinds RX6 5 22 ((fun k => [some (.ref (B 0)), some (.int (nI m)), some (.int (τ 12 m)), some (.int (vxM τ 12 m C k)), some (.int (nI k))]) (k + 1)) [] ((fun k => mW B tc (vxW τ 12 m k)) (k + 1)) → V X D tc cX6_kinds RX6 5 22 ((fun k => [some (.ref (B 0)), some (.int (nI m)), some (.int (τ 12 m)), some (.int (vxM τ 12 m C k)), some (.int (nI k))]) k) [] ((fun k => mW B tc (vxW τ 12 m k)) k) := by
    intro k hk ihlp
    refine V_ild4 dX6_kinds_22 ?_
    refine V_iconst 3 dX6_kinds_24 (by decide) ?_
    refine V_icmp_ge 60 dX6_kinds_25 (by decide) (fun c25 => ?_) (fun c25 => ?_)
    · exact absurd c25 (L3 hk)
    · refine V_ald0 dX6_kinds_28 ?_
      refine V_get lf_X6_29 dX6_kinds_29 mW_obj rfl ?_
      refine V_ild1 dX6_kinds_32 ?_
      refine V_ild4 dX6_kinds_33 ?_
      refine V_iastk dX6_kinds_35 mW_a12 ⟨hm6, by decide⟩ (mW_a12s _ _) ?_
      rw [vxW_s]
      refine V_ild3 dX6_kinds_36 ?_
      refine V_ald0 dX6_kinds_37 ?_
      refine V_callV lm_X6_235 (mk_areSo (τ := um τ 12 m (nI k)) (C := C) hC h8 hr) dX6_kinds_38 mW_obj rfl (dep hX (by decide)) rfl (Nat.le_of_ble_eq_true rfl) ?_
      refine V_if_eq 51 dX6_kinds_41 (by decide) (fun c41 => ?_) (fun c41 => ?_)
      · try rw [b2i_eq] at c41
        try rw [Decidable.not_not] at c41
        refine V_iconst 0 dX6_kinds_51 (by decide) ?_
        refine V_ior dX6_kinds_52 ?_
        refine V_ist3 dX6_kinds_53 rfl (by decide) ?_
        refine V_inc4 (nI (k + 1)) dX6_kinds_54 (nI_inc k) rfl (by decide) ?_
        refine V_goto 22 dX6_kinds_57 (by decide) ?_
        refine V_eq ?_ rfl rfl ihlp
        simp only [vxM, oneI]
        first | rw [if_pos c41] | rw [if_neg c41]
      · try rw [b2i_ne] at c41
        try rw [Decidable.not_not] at c41
        refine V_iconst 1 dX6_kinds_44 (by decide) ?_
        refine V_ild4 dX6_kinds_45 ?_
        refine V_ishl dX6_kinds_47 ?_
        refine V_goto 52 dX6_kinds_48 (by decide) ?_
        refine V_ior dX6_kinds_52 ?_
        refine V_ist3 dX6_kinds_53 rfl (by decide) ?_
        refine V_inc4 (nI (k + 1)) dX6_kinds_54 (nI_inc k) rfl (by decide) ?_
        refine V_goto 22 dX6_kinds_57 (by decide) ?_
        refine V_eq ?_ rfl rfl ihlp
        simp only [vxM, oneI]
        first | rw [if_pos c41] | rw [if_neg c41]
  have lpE : V X D tc cX6_kinds RX6 5 22 ((fun k => [some (.ref (B 0)), some (.int (nI m)), some (.int (τ 12 m)), some (.int (vxM τ 12 m C k)), some (.int (nI k))]) (3)) [] ((fun k => mW B tc (vxW τ 12 m k)) (3)) := by
    refine V_ild4 dX6_kinds_22 ?_
    refine V_iconst 3 dX6_kinds_24 (by decide) ?_
    refine V_icmp_ge 60 dX6_kinds_25 (by decide) (fun c25 => ?_) (fun c25 => ?_)
    · refine V_ald0 dX6_kinds_60 ?_
      refine V_get lf_X6_29 dX6_kinds_61 mW_obj rfl ?_
      refine V_ild1 dX6_kinds_64 ?_
      refine V_ild2 dX6_kinds_65 ?_
      refine V_iastk dX6_kinds_66 mW_a12 ⟨hm6, by decide⟩ (mW_a12s _ _) ?_
      refine V_ild3 dX6_kinds_67 ?_
      exact V_iret hX dX6_kinds_68 rfl rfl (congrArg (mW B tc) (by rw [vxW_s]; exact (um_self τ 12 m).symm))
    · exact absurd E3 c25
  have lp := V_for (fun k => [some (.ref (B 0)), some (.int (nI m)), some (.int (τ 12 m)), some (.int (vxM τ 12 m C k)), some (.int (nI k))]) (fun k => mW B tc (vxW τ 12 m k)) (3) lpS lpE
  exact lp 0 (Nat.zero_le _)
set_option maxRecDepth 100000 in
set_option maxHeartbeats 4000000 in
theorem mk_kinds (hM : τ 6 0 = nI M) (h6 : M ≤ 6) (hC : τ 33 0 = nI C) (h8 : C ≤ 8) (hr : ∀ r, r < C → ∃ z, z < 6 ∧ τ 34 r = nI z) (m : Int32) : Ok 2 yX6_kinds cX6_kinds 5 (some .int) D tc [.ref (B 0), .int m] (mW B tc τ) (some (.int (Rm_kinds τ C m))) (mW B tc τ) := by
  refine Ok_of RX6 rfl (by decide) [some (.ref (B 0)), some (.int m), none, none, none] rfl (Nat.le_of_ble_eq_true rfl) ?_
  intro X hX
  refine V_ald0 dX6_kinds_0 ?_
  refine V_ild1 dX6_kinds_1 ?_
  refine V_callV lm_X6_156 (mk_isMorning _) dX6_kinds_2 mW_obj rfl (dep hX (by decide)) rfl (Nat.le_of_ble_eq_true rfl) ?_
  refine V_if_ne 10 dX6_kinds_5 (by decide) (fun c5 => ?_) (fun c5 => ?_)
  · try rw [b2i_ne] at c5
    try rw [Decidable.not_not] at c5
    obtain ⟨k, hk, ek⟩ := isP_of hM (by omega) c5
    subst ek
    have hck : (nI k).toNatClampNeg = k := nI_clamp (by omega)
    refine V_ald0 dX6_kinds_10 ?_
    refine V_get lf_X6_29 dX6_kinds_11 mW_obj rfl ?_
    refine V_ild1 dX6_kinds_14 ?_
    refine V_ialdk dX6_kinds_15 mW_a12 ⟨by omega, by decide⟩ ?_
    refine V_ist2 dX6_kinds_16 rfl (by decide) ?_
    refine V_iconst 0 dX6_kinds_17 (by decide) ?_
    refine V_ist3 dX6_kinds_18 rfl (by decide) ?_
    refine V_iconst 0 dX6_kinds_19 (by decide) ?_
    refine V_ist4 dX6_kinds_20 rfl (by decide) ?_
    refine lm_kinds hC h8 hr (by omega) ?_
    have e : Rm_kinds τ C (nI k) = vxM τ 12 k C 3 := by rw [Rm_kinds, if_pos c5, hck]
    rw [← e]
    exact hX
  · try rw [b2i_eq] at c5
    try rw [Decidable.not_not] at c5
    refine V_iconst (-1) dX6_kinds_8 (by decide) ?_
    exact V_iret hX dX6_kinds_9 rfl (by (try first | replace c5 := eq_false c5 | replace c5 := eq_true c5); simp only [Rm_kinds, c5, not_true_eq_false, not_false_eq_true, and_self, true_and, and_true, false_and, and_false, true_or, or_true, false_or, or_false, or_self, ↓reduceIte]) rfl
set_option maxRecDepth 100000 in
set_option maxHeartbeats 4000000 in
theorem lm_takens (hC : τ 33 0 = nI C) (h8 : C ≤ 8) (hr : ∀ r, r < C → ∃ z, z < 6 ∧ τ 34 r = nI z) {X : Cx} {m : Nat} (hm6 : m < 6) (hX : Aim X D (some .int) 2 (some (.int (vxM τ 14 m C 10))) (mW B tc τ)) : V X D tc cX6_takens RX6 5 22 [some (.ref (B 0)), some (.int (nI m)), some (.int (τ 14 m)), some (.int 0), some (.int 0)] [] (mW B tc τ) := by
  have lpS : ∀ k, k < 10 → V X D tc cX6_takens RX6 5 22 ((fun k => [some (.ref (B 0)), some (.int (nI m)), some (.int (τ 14 m)), some (.int (vxM τ 14 m C k)), some (.int (nI k))]) (k + 1)) [] ((fun k => mW B tc (vxW τ 14 m k)) (k + 1)) → V X D tc cX6_takens RX6 5 22 ((fun k => [some (.ref (B 0)), some (.int (nI m)), some (.int (τ 14 m)), some (.int (vxM τ 14 m C k)), some (.int (nI k))]) k) [] ((fun k => mW B tc (vxW τ 14 m k)) k) := by
    intro k hk ihlp
    refine V_ild4 dX6_takens_22 ?_
    refine V_bipush 9 dX6_takens_24 (by decide) ?_
    refine V_icmp_gt 61 dX6_takens_26 (by decide) (fun c26 => ?_) (fun c26 => ?_)
    · exact absurd c26 (G9 hk)
    · refine V_ald0 dX6_takens_29 ?_
      refine V_get lf_X6_35 dX6_takens_30 mW_obj rfl ?_
      refine V_ild1 dX6_takens_33 ?_
      refine V_ild4 dX6_takens_34 ?_
      refine V_iastk dX6_takens_36 mW_a14 ⟨hm6, by decide⟩ (mW_a14s _ _) ?_
      rw [vxW_s]
      refine V_ild3 dX6_takens_37 ?_
      refine V_ald0 dX6_takens_38 ?_
      refine V_callV lm_X6_235 (mk_areSo (τ := um τ 14 m (nI k)) (C := C) hC h8 hr) dX6_takens_39 mW_obj rfl (dep hX (by decide)) rfl (Nat.le_of_ble_eq_true rfl) ?_
      refine V_if_eq 52 dX6_takens_42 (by decide) (fun c42 => ?_) (fun c42 => ?_)
      · try rw [b2i_eq] at c42
        try rw [Decidable.not_not] at c42
        refine V_iconst 0 dX6_takens_52 (by decide) ?_
        refine V_ior dX6_takens_53 ?_
        refine V_ist3 dX6_takens_54 rfl (by decide) ?_
        refine V_inc4 (nI (k + 1)) dX6_takens_55 (nI_inc k) rfl (by decide) ?_
        refine V_goto 22 dX6_takens_58 (by decide) ?_
        refine V_eq ?_ rfl rfl ihlp
        simp only [vxM, oneI]
        first | rw [if_pos c42] | rw [if_neg c42]
      · try rw [b2i_ne] at c42
        try rw [Decidable.not_not] at c42
        refine V_iconst 1 dX6_takens_45 (by decide) ?_
        refine V_ild4 dX6_takens_46 ?_
        refine V_ishl dX6_takens_48 ?_
        refine V_goto 53 dX6_takens_49 (by decide) ?_
        refine V_ior dX6_takens_53 ?_
        refine V_ist3 dX6_takens_54 rfl (by decide) ?_
        refine V_inc4 (nI (k + 1)) dX6_takens_55 (nI_inc k) rfl (by decide) ?_
        refine V_goto 22 dX6_takens_58 (by decide) ?_
        refine V_eq ?_ rfl rfl ihlp
        simp only [vxM, oneI]
        first | rw [if_pos c42] | rw [if_neg c42]
  have lpE : V X D tc cX6_takens RX6 5 22 ((fun k => [some (.ref (B 0)), some (.int (nI m)), some (.int (τ 14 m)), some (.int (vxM τ 14 m C k)), some (.int (nI k))]) (10)) [] ((fun k => mW B tc (vxW τ 14 m k)) (10)) := by
    refine V_ild4 dX6_takens_22 ?_
    refine V_bipush 9 dX6_takens_24 (by decide) ?_
    refine V_icmp_gt 61 dX6_takens_26 (by decide) (fun c26 => ?_) (fun c26 => ?_)
    · refine V_ald0 dX6_takens_61 ?_
      refine V_get lf_X6_35 dX6_takens_62 mW_obj rfl ?_
      refine V_ild1 dX6_takens_65 ?_
      refine V_ild2 dX6_takens_66 ?_
      refine V_iastk dX6_takens_67 mW_a14 ⟨hm6, by decide⟩ (mW_a14s _ _) ?_
      refine V_ild3 dX6_takens_68 ?_
      exact V_iret hX dX6_takens_69 rfl rfl (congrArg (mW B tc) (by rw [vxW_s]; exact (um_self τ 14 m).symm))
    · exact absurd G9e c26
  have lp := V_for (fun k => [some (.ref (B 0)), some (.int (nI m)), some (.int (τ 14 m)), some (.int (vxM τ 14 m C k)), some (.int (nI k))]) (fun k => mW B tc (vxW τ 14 m k)) (10) lpS lpE
  exact lp 0 (Nat.zero_le _)
set_option maxRecDepth 100000 in
set_option maxHeartbeats 4000000 in
theorem mk_takens (hM : τ 6 0 = nI M) (h6 : M ≤ 6) (hC : τ 33 0 = nI C) (h8 : C ≤ 8) (hr : ∀ r, r < C → ∃ z, z < 6 ∧ τ 34 r = nI z) (m : Int32) : Ok 2 yX6_takens cX6_takens 5 (some .int) D tc [.ref (B 0), .int m] (mW B tc τ) (some (.int (Rm_takens τ C m))) (mW B tc τ) := by
  refine Ok_of RX6 rfl (by decide) [some (.ref (B 0)), some (.int m), none, none, none] rfl (Nat.le_of_ble_eq_true rfl) ?_
  intro X hX
  refine V_ald0 dX6_takens_0 ?_
  refine V_ild1 dX6_takens_1 ?_
  refine V_callV lm_X6_156 (mk_isMorning _) dX6_takens_2 mW_obj rfl (dep hX (by decide)) rfl (Nat.le_of_ble_eq_true rfl) ?_
  refine V_if_ne 10 dX6_takens_5 (by decide) (fun c5 => ?_) (fun c5 => ?_)
  · try rw [b2i_ne] at c5
    try rw [Decidable.not_not] at c5
    obtain ⟨k, hk, ek⟩ := isP_of hM (by omega) c5
    subst ek
    have hck : (nI k).toNatClampNeg = k := nI_clamp (by omega)
    refine V_ald0 dX6_takens_10 ?_
    refine V_get lf_X6_35 dX6_takens_11 mW_obj rfl ?_
    refine V_ild1 dX6_takens_14 ?_
    refine V_ialdk dX6_takens_15 mW_a14 ⟨by omega, by decide⟩ ?_
    refine V_ist2 dX6_takens_16 rfl (by decide) ?_
    refine V_iconst 0 dX6_takens_17 (by decide) ?_
    refine V_ist3 dX6_takens_18 rfl (by decide) ?_
    refine V_iconst 0 dX6_takens_19 (by decide) ?_
    refine V_ist4 dX6_takens_20 rfl (by decide) ?_
    refine lm_takens hC h8 hr (by omega) ?_
    have e : Rm_takens τ C (nI k) = vxM τ 14 k C 10 := by rw [Rm_takens, if_pos c5, hck]
    rw [← e]
    exact hX
  · try rw [b2i_eq] at c5
    try rw [Decidable.not_not] at c5
    refine V_iconst (-1) dX6_takens_8 (by decide) ?_
    exact V_iret hX dX6_takens_9 rfl (by (try first | replace c5 := eq_false c5 | replace c5 := eq_true c5); simp only [Rm_takens, c5, not_true_eq_false, not_false_eq_true, and_self, true_and, and_true, false_and, and_false, true_or, or_true, false_or, or_false, or_self, ↓reduceIte]) rfl
set_option maxRecDepth 100000 in
set_option maxHeartbeats 4000000 in
theorem mk_begins (b : Int32) : Ok 0 yX6_begins cX6_begins 2 none D tc [.ref (B 0), .int b] (mW B tc τ) none (mW B tc (bgM τ b)) := by
  refine Ok_of RX6 rfl (by decide) [some (.ref (B 0)), some (.int b)] rfl (Nat.le_of_ble_eq_true rfl) ?_
  intro X hX
  refine V_ald0 dX6_begins_0 ?_
  refine V_bipush 31 dX6_begins_1 (by decide) ?_
  refine V_ald0 dX6_begins_3 ?_
  refine V_get lf_X6_247 dX6_begins_4 mW_obj rfl ?_
  refine V_imul dX6_begins_7 ?_
  refine V_ild1 dX6_begins_8 ?_
  refine V_iadd dX6_begins_9 ?_
  refine V_puti lp_X6_247 dX6_begins_10 mW_obj (Nat.le_of_ble_eq_true rfl) (mW_p1 _) ?_
  exact V_vret hX dX6_begins_13 rfl rfl rfl
set_option maxRecDepth 100000 in
set_option maxHeartbeats 4000000 in
theorem mk_tell (hM : τ 6 0 = nI M) (h6 : M ≤ 6) (m : Int32) : Ok 1 yX6_tell cX6_tell 3 (some .int) D tc [.ref (B 0), .int m] (mW B tc τ) (some (.int (Rm_tell τ m))) (mW B tc (Sm_tell τ m)) := by
  refine Ok_of RX6 rfl (by decide) [some (.ref (B 0)), some (.int m), none] rfl (Nat.le_of_ble_eq_true rfl) ?_
  intro X hX
  refine V_ald0 dX6_tell_0 ?_
  refine V_ild1 dX6_tell_1 ?_
  refine V_callV lm_X6_156 (mk_isMorning _) dX6_tell_2 mW_obj rfl (dep hX (by decide)) rfl (Nat.le_of_ble_eq_true rfl) ?_
  refine V_if_ne 10 dX6_tell_5 (by decide) (fun c5 => ?_) (fun c5 => ?_)
  · try rw [b2i_ne] at c5
    try rw [Decidable.not_not] at c5
    obtain ⟨k, hk, ek⟩ := isP_of hM (by omega) c5
    subst ek
    have hck : (nI k).toNatClampNeg = k := nI_clamp (by omega)
    refine V_ald0 dX6_tell_10 ?_
    refine V_get lf_X6_38 dX6_tell_11 mW_obj rfl ?_
    refine V_ild1 dX6_tell_14 ?_
    refine V_ialdk dX6_tell_15 mW_a15 ⟨by omega, by decide⟩ ?_
    refine V_ist2 dX6_tell_16 rfl (by decide) ?_
    refine V_ald0 dX6_tell_17 ?_
    refine V_get lf_X6_29 dX6_tell_18 mW_obj rfl ?_
    refine V_ild1 dX6_tell_21 ?_
    refine V_ialdk dX6_tell_22 mW_a12 ⟨by omega, by decide⟩ ?_
    by_cases e1 : τ 12 k = 1
    · refine V_lookup (off := 25) 48 dX6_tell_23 (by decide) (by rw [e1]; decide) (by decide) ?_
      refine V_ald0 dX6_tell_48 ?_
      refine V_iconst 2 dX6_tell_49 (by decide) ?_
      refine V_callVv lm_X6_250 (mk_begins 2) dX6_tell_50 mW_obj rfl (dep hX (by decide)) rfl (Nat.le_of_ble_eq_true rfl) ?_
      refine V_ald0 dX6_tell_53 ?_
      refine V_iconst 1 dX6_tell_54 (by decide) ?_
      refine V_callVv lm_X6_250 (mk_begins 1) dX6_tell_55 mW_obj rfl (dep hX (by decide)) rfl (Nat.le_of_ble_eq_true rfl) ?_
      refine V_ild2 dX6_tell_58 ?_
      refine V_bipush 100 dX6_tell_59 (by decide) ?_
      refine V_iadd dX6_tell_61 ?_
      exact V_iret hX dX6_tell_62 rfl (by (try first | replace c5 := eq_false c5 | replace c5 := eq_true c5); simp only [Rm_tell, hck, e1, c5, not_true_eq_false, not_false_eq_true, and_self, true_and, and_true, false_and, and_false, true_or, or_true, false_or, or_false, or_self, ↓reduceIte]) (congrArg (mW B tc) (by (try first | replace c5 := eq_false c5 | replace c5 := eq_true c5); simp only [Sm_tell, hck, e1, c5, not_true_eq_false, not_false_eq_true, and_self, true_and, and_true, false_and, and_false, true_or, or_true, false_or, or_false, or_self, ↓reduceIte]))
    by_cases e2 : τ 12 k = 2
    · refine V_lookup (off := 40) 63 dX6_tell_23 (by decide) (by rw [e2]; decide) (by decide) ?_
      refine V_ald0 dX6_tell_63 ?_
      refine V_iconst 3 dX6_tell_64 (by decide) ?_
      refine V_callVv lm_X6_250 (mk_begins 3) dX6_tell_65 mW_obj rfl (dep hX (by decide)) rfl (Nat.le_of_ble_eq_true rfl) ?_
      refine V_ald0 dX6_tell_68 ?_
      refine V_iconst 2 dX6_tell_69 (by decide) ?_
      refine V_callVv lm_X6_250 (mk_begins 2) dX6_tell_70 mW_obj rfl (dep hX (by decide)) rfl (Nat.le_of_ble_eq_true rfl) ?_
      refine V_ald0 dX6_tell_73 ?_
      refine V_iconst 1 dX6_tell_74 (by decide) ?_
      refine V_callVv lm_X6_250 (mk_begins 1) dX6_tell_75 mW_obj rfl (dep hX (by decide)) rfl (Nat.le_of_ble_eq_true rfl) ?_
      refine V_ald0 dX6_tell_78 ?_
      refine V_iconst 1 dX6_tell_79 (by decide) ?_
      refine V_callVv lm_X6_250 (mk_begins 1) dX6_tell_80 mW_obj rfl (dep hX (by decide)) rfl (Nat.le_of_ble_eq_true rfl) ?_
      refine V_iconst 2 dX6_tell_83 (by decide) ?_
      refine V_ild2 dX6_tell_84 ?_
      refine V_imul dX6_tell_85 ?_
      refine V_bipush 100 dX6_tell_86 (by decide) ?_
      refine V_iadd dX6_tell_88 ?_
      exact V_iret hX dX6_tell_89 rfl (by (try first | replace c5 := eq_false c5 | replace c5 := eq_true c5); simp only [Rm_tell, hck, e2, c5, not_true_eq_false, not_false_eq_true, and_self, true_and, and_true, false_and, and_false, true_or, or_true, false_or, or_false, or_self, ↓reduceIte]; rw [if_neg (by decide)]) (congrArg (mW B tc) (by (try first | replace c5 := eq_false c5 | replace c5 := eq_true c5); simp only [Sm_tell, hck, e2, c5, not_true_eq_false, not_false_eq_true, and_self, true_and, and_true, false_and, and_false, true_or, or_true, false_or, or_false, or_self, ↓reduceIte]; rw [if_neg (by decide)]))
    refine V_lookup (off := 67) 90 dX6_tell_23 (by decide) (by show Op.lookupswitch.offset [(1, 25), (2, 40)] 67 _ = 67; rw [lv_osw e1 (by decide), lv_osw e2 (by decide)]; rfl) (by decide) ?_
    refine V_ald0 dX6_tell_90 ?_
    refine V_iconst 1 dX6_tell_91 (by decide) ?_
    refine V_callVv lm_X6_250 (mk_begins 1) dX6_tell_92 mW_obj rfl (dep hX (by decide)) rfl (Nat.le_of_ble_eq_true rfl) ?_
    refine V_ild2 dX6_tell_95 ?_
    exact V_iret hX dX6_tell_96 rfl (by (try first | replace c5 := eq_false c5 | replace c5 := eq_true c5); simp only [Rm_tell, hck, e1, e2, c5, not_true_eq_false, not_false_eq_true, and_self, true_and, and_true, false_and, and_false, true_or, or_true, false_or, or_false, or_self, ↓reduceIte]) (congrArg (mW B tc) (by (try first | replace c5 := eq_false c5 | replace c5 := eq_true c5); simp only [Sm_tell, hck, e1, e2, c5, not_true_eq_false, not_false_eq_true, and_self, true_and, and_true, false_and, and_false, true_or, or_true, false_or, or_false, or_self, ↓reduceIte]))
  · try rw [b2i_eq] at c5
    try rw [Decidable.not_not] at c5
    refine V_iconst (-1) dX6_tell_8 (by decide) ?_
    exact V_iret hX dX6_tell_9 rfl (by (try first | replace c5 := eq_false c5 | replace c5 := eq_true c5); simp only [Rm_tell, c5, not_true_eq_false, not_false_eq_true, and_self, true_and, and_true, false_and, and_false, true_or, or_true, false_or, or_false, or_self, ↓reduceIte]) (congrArg (mW B tc) (by (try first | replace c5 := eq_false c5 | replace c5 := eq_true c5); simp only [Sm_tell, c5, not_true_eq_false, not_false_eq_true, and_self, true_and, and_true, false_and, and_false, true_or, or_true, false_or, or_false, or_self, ↓reduceIte]))
set_option maxRecDepth 100000 in
set_option maxHeartbeats 4000000 in
theorem mk_crow (hM : τ 6 0 = nI M) (h6 : M ≤ 6) (m : Int32) : Ok 1 yX6_crow cX6_crow 2 (some .int) D tc [.ref (B 0), .int m] (mW B tc τ) (some (.int (Rm_crow τ m))) (mW B tc (Sm_crow τ m)) := by
  refine Ok_of RX6 rfl (by decide) [some (.ref (B 0)), some (.int m)] rfl (Nat.le_of_ble_eq_true rfl) ?_
  intro X hX
  refine V_ald0 dX6_crow_0 ?_
  refine V_ild1 dX6_crow_1 ?_
  refine V_callV lm_X6_156 (mk_isMorning _) dX6_crow_2 mW_obj rfl (dep hX (by decide)) rfl (Nat.le_of_ble_eq_true rfl) ?_
  refine V_if_ne 10 dX6_crow_5 (by decide) (fun c5 => ?_) (fun c5 => ?_)
  · try rw [b2i_ne] at c5
    try rw [Decidable.not_not] at c5
    obtain ⟨k, hk, ek⟩ := isP_of hM (by omega) c5
    subst ek
    have hck : (nI k).toNatClampNeg = k := nI_clamp (by omega)
    refine V_ald0 dX6_crow_10 ?_
    refine V_ald0 dX6_crow_11 ?_
    refine V_get lf_X6_29 dX6_crow_12 mW_obj rfl ?_
    refine V_ild1 dX6_crow_15 ?_
    refine V_ialdk dX6_crow_16 mW_a12 ⟨by omega, by decide⟩ ?_
    refine V_iconst 2 dX6_crow_17 (by decide) ?_
    refine V_icmp_ne 25 dX6_crow_18 (by decide) (fun c18 => ?_) (fun c18 => ?_)
    · refine V_iconst 4 dX6_crow_25 (by decide) ?_
      refine V_callVv lm_X6_250 (mk_begins _) dX6_crow_26 mW_obj rfl (dep hX (by decide)) rfl (Nat.le_of_ble_eq_true rfl) ?_
      refine V_ald0 dX6_crow_29 ?_
      refine V_get lf_X6_29 dX6_crow_30 mW_obj rfl ?_
      refine V_ild1 dX6_crow_33 ?_
      refine V_ialdk dX6_crow_34 mW_a12 ⟨by omega, by decide⟩ ?_
      refine V_top (y := τ 12 k) rfl ?_
      refine V_iconst 2 dX6_crow_35 (by decide) ?_
      refine V_icmp_ne 44 dX6_crow_36 (by decide) (fun c36 => ?_) (fun c36 => ?_)
      · refine V_ild1 dX6_crow_44 ?_
        exact V_iret hX dX6_crow_45 rfl (by first | ((try first | replace c5 := eq_false c5 | replace c5 := eq_true c5); (try first | replace c18 := eq_false c18 | replace c18 := eq_true c18); (try first | replace c36 := eq_false c36 | replace c36 := eq_true c36); simp only [Rm_crow, hck, c5, c18, c36, not_true_eq_false, not_false_eq_true, and_self, true_and, and_true, false_and, and_false, true_or, or_true, false_or, or_false, or_self, ↓reduceIte]; done) | exact absurd c36 c18 | exact absurd c18 c36) (by first | exact congrArg (mW B tc) (by (try first | replace c5 := eq_false c5 | replace c5 := eq_true c5); (try first | replace c18 := eq_false c18 | replace c18 := eq_true c18); (try first | replace c36 := eq_false c36 | replace c36 := eq_true c36); simp only [Sm_crow, hck, c5, c18, c36, not_true_eq_false, not_false_eq_true, and_self, true_and, and_true, false_and, and_false, true_or, or_true, false_or, or_false, or_self, ↓reduceIte]) | exact absurd c36 c18 | exact absurd c18 c36)
      · refine V_bipush 70 dX6_crow_39 (by decide) ?_
        refine V_goto 45 dX6_crow_41 (by decide) ?_
        exact V_iret hX dX6_crow_45 rfl (by first | ((try first | replace c5 := eq_false c5 | replace c5 := eq_true c5); (try first | replace c18 := eq_false c18 | replace c18 := eq_true c18); (try first | replace c36 := eq_false c36 | replace c36 := eq_true c36); simp only [Rm_crow, hck, c5, c18, c36, not_true_eq_false, not_false_eq_true, and_self, true_and, and_true, false_and, and_false, true_or, or_true, false_or, or_false, or_self, ↓reduceIte]; done) | exact absurd c36 c18 | exact absurd c18 c36) (by first | exact congrArg (mW B tc) (by (try first | replace c5 := eq_false c5 | replace c5 := eq_true c5); (try first | replace c18 := eq_false c18 | replace c18 := eq_true c18); (try first | replace c36 := eq_false c36 | replace c36 := eq_true c36); simp only [Sm_crow, hck, c5, c18, c36, not_true_eq_false, not_false_eq_true, and_self, true_and, and_true, false_and, and_false, true_or, or_true, false_or, or_false, or_self, ↓reduceIte]) | exact absurd c36 c18 | exact absurd c18 c36)
    · refine V_iconst 5 dX6_crow_21 (by decide) ?_
      refine V_goto 26 dX6_crow_22 (by decide) ?_
      refine V_callVv lm_X6_250 (mk_begins _) dX6_crow_26 mW_obj rfl (dep hX (by decide)) rfl (Nat.le_of_ble_eq_true rfl) ?_
      refine V_ald0 dX6_crow_29 ?_
      refine V_get lf_X6_29 dX6_crow_30 mW_obj rfl ?_
      refine V_ild1 dX6_crow_33 ?_
      refine V_ialdk dX6_crow_34 mW_a12 ⟨by omega, by decide⟩ ?_
      refine V_top (y := τ 12 k) rfl ?_
      refine V_iconst 2 dX6_crow_35 (by decide) ?_
      refine V_icmp_ne 44 dX6_crow_36 (by decide) (fun c36 => ?_) (fun c36 => ?_)
      · refine V_ild1 dX6_crow_44 ?_
        exact V_iret hX dX6_crow_45 rfl (by first | ((try first | replace c5 := eq_false c5 | replace c5 := eq_true c5); (try first | replace c18 := eq_false c18 | replace c18 := eq_true c18); (try first | replace c36 := eq_false c36 | replace c36 := eq_true c36); simp only [Rm_crow, hck, c5, c18, c36, not_true_eq_false, not_false_eq_true, and_self, true_and, and_true, false_and, and_false, true_or, or_true, false_or, or_false, or_self, ↓reduceIte]; done) | exact absurd c36 c18 | exact absurd c18 c36) (by first | exact congrArg (mW B tc) (by (try first | replace c5 := eq_false c5 | replace c5 := eq_true c5); (try first | replace c18 := eq_false c18 | replace c18 := eq_true c18); (try first | replace c36 := eq_false c36 | replace c36 := eq_true c36); simp only [Sm_crow, hck, c5, c18, c36, not_true_eq_false, not_false_eq_true, and_self, true_and, and_true, false_and, and_false, true_or, or_true, false_or, or_false, or_self, ↓reduceIte]) | exact absurd c36 c18 | exact absurd c18 c36)
      · refine V_bipush 70 dX6_crow_39 (by decide) ?_
        refine V_goto 45 dX6_crow_41 (by decide) ?_
        exact V_iret hX dX6_crow_45 rfl (by first | ((try first | replace c5 := eq_false c5 | replace c5 := eq_true c5); (try first | replace c18 := eq_false c18 | replace c18 := eq_true c18); (try first | replace c36 := eq_false c36 | replace c36 := eq_true c36); simp only [Rm_crow, hck, c5, c18, c36, not_true_eq_false, not_false_eq_true, and_self, true_and, and_true, false_and, and_false, true_or, or_true, false_or, or_false, or_self, ↓reduceIte]; done) | exact absurd c36 c18 | exact absurd c18 c36) (by first | exact congrArg (mW B tc) (by (try first | replace c5 := eq_false c5 | replace c5 := eq_true c5); (try first | replace c18 := eq_false c18 | replace c18 := eq_true c18); (try first | replace c36 := eq_false c36 | replace c36 := eq_true c36); simp only [Sm_crow, hck, c5, c18, c36, not_true_eq_false, not_false_eq_true, and_self, true_and, and_true, false_and, and_false, true_or, or_true, false_or, or_false, or_self, ↓reduceIte]) | exact absurd c36 c18 | exact absurd c18 c36)
  · try rw [b2i_eq] at c5
    try rw [Decidable.not_not] at c5
    refine V_iconst (-1) dX6_crow_8 (by decide) ?_
    exact V_iret hX dX6_crow_9 rfl (by (try first | replace c5 := eq_false c5 | replace c5 := eq_true c5); simp only [Rm_crow, c5, not_true_eq_false, not_false_eq_true, and_self, true_and, and_true, false_and, and_false, true_or, or_true, false_or, or_false, or_self, ↓reduceIte]) (congrArg (mW B tc) (by (try first | replace c5 := eq_false c5 | replace c5 := eq_true c5); simp only [Sm_crow, c5, not_true_eq_false, not_false_eq_true, and_self, true_and, and_true, false_and, and_false, true_or, or_true, false_or, or_false, or_self, ↓reduceIte]))
set_option maxRecDepth 100000 in
set_option maxHeartbeats 4000000 in
theorem mk_as (hM : τ 6 0 = nI M) (h6 : M ≤ 6) (m kd : Int32) : Ok 1 yX6_as cX6_as 3 (some .int) D tc [.ref (B 0), .int m, .int kd] (mW B tc τ) (some (.int (Rm_as (um τ 0 0 0) m kd))) (mW B tc (Sm_as (um τ 0 0 0) m kd)) := by
  refine Ok_of RX6 rfl (by decide) [some (.ref (B 0)), some (.int m), some (.int kd)] rfl (Nat.le_of_ble_eq_true rfl) ?_
  intro X hX
  refine V_ald0 dX6_as_0 ?_
  refine V_iconst 0 dX6_as_1 (by decide) ?_
  refine V_puti lp_X6_80 dX6_as_2 mW_obj (Nat.le_of_ble_eq_true rfl) (mW_p0 _) ?_
  have hM := (show (um τ 0 0 0) 6 0 = nI M from hM)
  generalize um τ 0 0 0 = τ at hX hM ⊢
  refine V_ald0 dX6_as_5 ?_
  refine V_ild1 dX6_as_6 ?_
  refine V_callV lm_X6_156 (mk_isMorning _) dX6_as_7 mW_obj rfl (dep hX (by decide)) rfl (Nat.le_of_ble_eq_true rfl) ?_
  refine V_if_ne 15 dX6_as_10 (by decide) (fun c10 => ?_) (fun c10 => ?_)
  · try rw [b2i_ne] at c10
    try rw [Decidable.not_not] at c10
    obtain ⟨k, hk, ek⟩ := isP_of hM (by omega) c10
    subst ek
    have hck : (nI k).toNatClampNeg = k := nI_clamp (by omega)
    refine V_ild2 dX6_as_15 ?_
    refine V_iconst 0 dX6_as_16 (by decide) ?_
    refine V_iconst 2 dX6_as_17 (by decide) ?_
    refine V_callS ls_X6_86 (mk_within _ _ _) dX6_as_18 (dep hX (by decide)) rfl (Nat.le_of_ble_eq_true rfl) ?_
    refine V_if_ne 27 dX6_as_21 (by decide) (fun c21 => ?_) (fun c21 => ?_)
    · try rw [b2i_ne] at c21
      try rw [Decidable.not_not] at c21
      refine V_ald0 dX6_as_27 ?_
      refine V_get lf_X6_29 dX6_as_28 mW_obj rfl ?_
      refine V_ild1 dX6_as_31 ?_
      refine V_ialdk dX6_as_32 mW_a12 ⟨by omega, by decide⟩ ?_
      refine V_ild2 dX6_as_33 ?_
      refine V_icmp_lt 41 dX6_as_34 (by decide) (fun c34 => ?_) (fun c34 => ?_)
      · refine V_ald0 dX6_as_41 ?_
        refine V_iconst 2 dX6_as_42 (by decide) ?_
        refine V_callV lm_X6_110 (mk_fails 2) dX6_as_43 mW_obj rfl (dep hX (by decide)) rfl (Nat.le_of_ble_eq_true rfl) ?_
        exact V_iret hX dX6_as_46 rfl (by (try first | replace c10 := eq_false c10 | replace c10 := eq_true c10); (try first | replace c21 := eq_false c21 | replace c21 := eq_true c21); (try first | replace c34 := eq_false c34 | replace c34 := eq_true c34); simp only [Rm_as, hck, c10, c21, c34, not_true_eq_false, not_false_eq_true, and_self, true_and, and_true, false_and, and_false, true_or, or_true, false_or, or_false, or_self, ↓reduceIte]; try decide) (congrArg (mW B tc) (by (try first | replace c10 := eq_false c10 | replace c10 := eq_true c10); (try first | replace c21 := eq_false c21 | replace c21 := eq_true c21); (try first | replace c34 := eq_false c34 | replace c34 := eq_true c34); simp only [Sm_as, hck, c10, c21, c34, not_true_eq_false, not_false_eq_true, and_self, true_and, and_true, false_and, and_false, true_or, or_true, false_or, or_false, or_self, ↓reduceIte]))
      · refine V_iconst 1 dX6_as_37 (by decide) ?_
        refine V_goto 46 dX6_as_38 (by decide) ?_
        exact V_iret hX dX6_as_46 rfl (by (try first | replace c10 := eq_false c10 | replace c10 := eq_true c10); (try first | replace c21 := eq_false c21 | replace c21 := eq_true c21); (try first | replace c34 := eq_false c34 | replace c34 := eq_true c34); simp only [Rm_as, hck, c10, c21, c34, not_true_eq_false, not_false_eq_true, and_self, true_and, and_true, false_and, and_false, true_or, or_true, false_or, or_false, or_self, ↓reduceIte]; try decide) (congrArg (mW B tc) (by (try first | replace c10 := eq_false c10 | replace c10 := eq_true c10); (try first | replace c21 := eq_false c21 | replace c21 := eq_true c21); (try first | replace c34 := eq_false c34 | replace c34 := eq_true c34); simp only [Sm_as, hck, c10, c21, c34, not_true_eq_false, not_false_eq_true, and_self, true_and, and_true, false_and, and_false, true_or, or_true, false_or, or_false, or_self, ↓reduceIte]))
    · try rw [b2i_eq] at c21
      try rw [Decidable.not_not] at c21
      refine V_bipush (-2) dX6_as_24 (by decide) ?_
      exact V_iret hX dX6_as_26 rfl (by (try first | replace c10 := eq_false c10 | replace c10 := eq_true c10); (try first | replace c21 := eq_false c21 | replace c21 := eq_true c21); simp only [Rm_as, hck, c10, c21, not_true_eq_false, not_false_eq_true, and_self, true_and, and_true, false_and, and_false, true_or, or_true, false_or, or_false, or_self, ↓reduceIte]) (congrArg (mW B tc) (by (try first | replace c10 := eq_false c10 | replace c10 := eq_true c10); (try first | replace c21 := eq_false c21 | replace c21 := eq_true c21); simp only [Sm_as, hck, c10, c21, not_true_eq_false, not_false_eq_true, and_self, true_and, and_true, false_and, and_false, true_or, or_true, false_or, or_false, or_self, ↓reduceIte]))
  · try rw [b2i_eq] at c10
    try rw [Decidable.not_not] at c10
    refine V_iconst (-1) dX6_as_13 (by decide) ?_
    exact V_iret hX dX6_as_14 rfl (by (try first | replace c10 := eq_false c10 | replace c10 := eq_true c10); simp only [Rm_as, c10, not_true_eq_false, not_false_eq_true, and_self, true_and, and_true, false_and, and_false, true_or, or_true, false_or, or_false, or_self, ↓reduceIte]) (congrArg (mW B tc) (by (try first | replace c10 := eq_false c10 | replace c10 := eq_true c10); simp only [Sm_as, c10, not_true_eq_false, not_false_eq_true, and_self, true_and, and_true, false_and, and_false, true_or, or_true, false_or, or_false, or_self, ↓reduceIte]))
set_option maxRecDepth 100000 in
set_option maxHeartbeats 4000000 in
theorem mk_trace : Ok 0 yX6_trace cX6_trace 1 (some .int) D tc [.ref (B 0)] (mW B tc τ) (some (.int (τ 1 0))) (mW B tc τ) := by
  refine Ok_of RX6 rfl (by decide) [some (.ref (B 0))] rfl (Nat.le_of_ble_eq_true rfl) ?_
  intro X hX
  refine V_ald0 dX6_trace_0 ?_
  refine V_get lf_X6_247 dX6_trace_1 mW_obj rfl ?_
  exact V_iret hX dX6_trace_4 rfl rfl rfl
set_option maxRecDepth 100000 in
set_option maxHeartbeats 4000000 in
theorem mk_fault : Ok 0 yX6_fault cX6_fault 1 (some .int) D tc [.ref (B 0)] (mW B tc τ) (some (.int (τ 0 0))) (mW B tc τ) := by
  refine Ok_of RX6 rfl (by decide) [some (.ref (B 0))] rfl (Nat.le_of_ble_eq_true rfl) ?_
  intro X hX
  refine V_ald0 dX6_fault_0 ?_
  refine V_get lf_X6_80 dX6_fault_1 mW_obj rfl ?_
  exact V_iret hX dX6_fault_4 rfl rfl rfl
set_option maxRecDepth 100000 in
set_option maxHeartbeats 4000000 in
theorem mk_many (w : Int32) : Ok 0 yX6_many cX6_many 2 (some .int) D tc [.ref (B 0), .int w] (mW B tc τ) (some (.int (Rm_many τ w))) (mW B tc τ) := by
  refine Ok_of RX6 rfl (by decide) [some (.ref (B 0)), some (.int w)] rfl (Nat.le_of_ble_eq_true rfl) ?_
  intro X hX
  refine V_ild1 dX6_many_0 ?_
  by_cases e0 : w = 0
  · subst e0
    refine V_tableIn (off := 35) 36 dX6_many_1 (by decide) (by decide) (by decide) (by decide) ?_
    refine V_ald0 dX6_many_36 ?_
    refine V_get lf_X6_93 dX6_many_37 mW_obj rfl ?_
    exact V_iret hX dX6_many_40 rfl rfl rfl
  by_cases e1 : w = 1
  · subst e1
    refine V_tableIn (off := 40) 41 dX6_many_1 (by decide) (by decide) (by decide) (by decide) ?_
    refine V_ald0 dX6_many_41 ?_
    refine V_get lf_X6_90 dX6_many_42 mW_obj rfl ?_
    exact V_iret hX dX6_many_45 rfl rfl rfl
  by_cases e2 : w = 2
  · subst e2
    refine V_tableIn (off := 45) 46 dX6_many_1 (by decide) (by decide) (by decide) (by decide) ?_
    refine V_ald0 dX6_many_46 ?_
    refine V_get lf_X6_129 dX6_many_47 mW_obj rfl ?_
    exact V_iret hX dX6_many_50 rfl rfl rfl
  by_cases e3 : w = 3
  · subst e3
    refine V_tableIn (off := 50) 51 dX6_many_1 (by decide) (by decide) (by decide) (by decide) ?_
    refine V_ald0 dX6_many_51 ?_
    refine V_get lf_X6_123 dX6_many_52 mW_obj rfl ?_
    exact V_iret hX dX6_many_55 rfl rfl rfl
  by_cases e4 : w = 4
  · subst e4
    refine V_tableIn (off := 55) 56 dX6_many_1 (by decide) (by decide) (by decide) (by decide) ?_
    refine V_ald0 dX6_many_56 ?_
    refine V_get lf_X6_135 dX6_many_57 mW_obj rfl ?_
    exact V_iret hX dX6_many_60 rfl rfl rfl
  refine V_tableOut 61 dX6_many_1 (swOut5 e0 e1 e2 e3 e4) (by decide) ?_
  refine V_bipush (-2) dX6_many_61 (by decide) ?_
  exact V_iret hX dX6_many_63 rfl (by rw [Rm_many, sel5_d e0 e1 e2 e3 e4]) rfl
end
