/-! long locals; least terms; odds -/
theorem lvH.store2 {ls' : Array Slot} {nL i : Nat} {v : Value} {L L' : List (Option Value)} (hh : ∀ (j : Nat) (w : Value), lget L' j = some w → (j = i ∧ w = v) ∨ (¬ j = i ∧ ¬ j = i + 1 ∧ ¬ (j + 1 = i ∧ w.category = 2) ∧ lget L j = some w)) (h : lv_has ls' nL ((i, v) :: (lvp 0 L).filter (fun q => !(q.1 == i) && (!(q.1 == i + 1) && !(q.1 + 1 == i && q.2.category == 2))))) : lvH ls' nL L' := by
  refine ⟨h.1, h.2.1, fun j w hj => ?_⟩
  rcases hh j w hj with ⟨rfl, rfl⟩ | ⟨h1, h2, h3, hw⟩
  · exact h.2.2 _ List.mem_cons_self
  · refine h.2.2 (j, w) (List.mem_cons_of_mem _ (List.mem_filter.mpr ⟨by have := (lvp_mem L 0 j w).mpr hw; simpa using this, ?_⟩))
    have e1 : (j == i) = false := beq_eq_false_iff_ne.mpr h1
    have e2 : (j == i + 1) = false := beq_eq_false_iff_ne.mpr h2
    have e3 : (j + 1 == i && w.category == 2) = false := by
      rw [Bool.and_eq_false_iff]
      by_cases q : j + 1 = i
      · exact Or.inr (beq_eq_false_iff_ne.mpr (fun z => h3 ⟨q, z⟩))
      · exact Or.inl (beq_eq_false_iff_ne.mpr q)
    show (!(j == i) && (!(j == i + 1) && !(j + 1 == i && w.category == 2))) = true
    rw [e1, e2, e3]
    rfl
theorem lg_cmp0 {y : Nat} (h : y < 2 ^ 31) : lg_cmp (lN y) 0 = 0 ↔ y = 0 := by
  rw [lg_cmp_eq, show (0 : Int64) = lN 0 by decide, lN_eq h (by decide)]
abbrev Lg (u d : Int64) (w : Int32) (X Y Z : Option Value) : List (Option Value) := [some (.long u), none, some (.long d), none, some (.int w), X, none, Y, none, Z, none]
theorem lg_st5 {u d x : Int64} {w : Int32} {X Y Z : Option Value} : ∀ (j : Nat) (v : Value), lget (Lg u d w (some (.long x)) Y Z) j = some v → (j = 5 ∧ v = .long x) ∨ (¬ j = 5 ∧ ¬ j = 5 + 1 ∧ ¬ (j + 1 = 5 ∧ v.category = 2) ∧ lget (Lg u d w X Y Z) j = some v) := by
  intro j v hj
  rcases j with _ | _ | _ | _ | _ | _ | _ | _ | _ | _ | _ | j
  · exact Or.inr ⟨by decide, by decide, fun h => absurd h.1 (by decide), hj⟩
  · exact absurd (show (none : Option Value) = some v from hj) (by simp)
  · exact Or.inr ⟨by decide, by decide, fun h => absurd h.1 (by decide), hj⟩
  · exact absurd (show (none : Option Value) = some v from hj) (by simp)
  · have e : some (Value.int w) = some v := hj
    cases e
    exact Or.inr ⟨by decide, by decide, fun h => absurd h.2 (show ¬ (1 : Nat) = 2 by decide), rfl⟩
  · have e : some (Value.long x) = some v := hj
    cases e
    exact Or.inl ⟨rfl, rfl⟩
  · exact absurd (show (none : Option Value) = some v from hj) (by simp)
  · exact Or.inr ⟨by decide, by decide, fun h => absurd h.1 (by decide), hj⟩
  · exact absurd (show (none : Option Value) = some v from hj) (by simp)
  · exact Or.inr ⟨by decide, by decide, fun h => absurd h.1 (by decide), hj⟩
  · exact absurd (show (none : Option Value) = some v from hj) (by simp)
  · exact absurd (show (none : Option Value) = some v from hj) (by simp)
theorem lg_st7 {u d x : Int64} {w : Int32} {X Y Z : Option Value} : ∀ (j : Nat) (v : Value), lget (Lg u d w X (some (.long x)) Z) j = some v → (j = 7 ∧ v = .long x) ∨ (¬ j = 7 ∧ ¬ j = 7 + 1 ∧ ¬ (j + 1 = 7 ∧ v.category = 2) ∧ lget (Lg u d w X Y Z) j = some v) := by
  intro j v hj
  rcases j with _ | _ | _ | _ | _ | _ | _ | _ | _ | _ | _ | j
  · exact Or.inr ⟨by decide, by decide, fun h => absurd h.1 (by decide), hj⟩
  · exact absurd (show (none : Option Value) = some v from hj) (by simp)
  · exact Or.inr ⟨by decide, by decide, fun h => absurd h.1 (by decide), hj⟩
  · exact absurd (show (none : Option Value) = some v from hj) (by simp)
  · exact Or.inr ⟨by decide, by decide, fun h => absurd h.1 (by decide), hj⟩
  · exact Or.inr ⟨by decide, by decide, fun h => absurd h.1 (by decide), hj⟩
  · exact absurd (show (none : Option Value) = some v from hj) (by simp)
  · have e : some (Value.long x) = some v := hj
    cases e
    exact Or.inl ⟨rfl, rfl⟩
  · exact absurd (show (none : Option Value) = some v from hj) (by simp)
  · exact Or.inr ⟨by decide, by decide, fun h => absurd h.1 (by decide), hj⟩
  · exact absurd (show (none : Option Value) = some v from hj) (by simp)
  · exact absurd (show (none : Option Value) = some v from hj) (by simp)
theorem lg_st9 {u d x : Int64} {w : Int32} {X Y Z : Option Value} : ∀ (j : Nat) (v : Value), lget (Lg u d w X Y (some (.long x))) j = some v → (j = 9 ∧ v = .long x) ∨ (¬ j = 9 ∧ ¬ j = 9 + 1 ∧ ¬ (j + 1 = 9 ∧ v.category = 2) ∧ lget (Lg u d w X Y Z) j = some v) := by
  intro j v hj
  rcases j with _ | _ | _ | _ | _ | _ | _ | _ | _ | _ | _ | j
  · exact Or.inr ⟨by decide, by decide, fun h => absurd h.1 (by decide), hj⟩
  · exact absurd (show (none : Option Value) = some v from hj) (by simp)
  · exact Or.inr ⟨by decide, by decide, fun h => absurd h.1 (by decide), hj⟩
  · exact absurd (show (none : Option Value) = some v from hj) (by simp)
  · exact Or.inr ⟨by decide, by decide, fun h => absurd h.1 (by decide), hj⟩
  · exact Or.inr ⟨by decide, by decide, fun h => absurd h.1 (by decide), hj⟩
  · exact absurd (show (none : Option Value) = some v from hj) (by simp)
  · exact Or.inr ⟨by decide, by decide, fun h => absurd h.1 (by decide), hj⟩
  · exact absurd (show (none : Option Value) = some v from hj) (by simp)
  · have e : some (Value.long x) = some v := hj
    cases e
    exact Or.inl ⟨rfl, rfl⟩
  · exact absurd (show (none : Option Value) = some v from hj) (by simp)
  · exact absurd (show (none : Option Value) = some v from hj) (by simp)
section
variable {X : Cx} {D : va_G} {tc : Tc} {cc : ByteArray} {own : String} {nL pc : Nat} {L L' : List (Option Value)} {st : List Value} {ws : va_W}
theorem V_lldG {i : Nat} {x : Int64} (hd : decode cc pc = .ok (.lload i, 2)) (hg : lget L i = some (.long x)) (k : V X D tc cc own nL (pc + 2) L (.long x :: st) ws) : V X D tc cc own nL pc L st ws := by
  intro F H locs ls hP hD hS hl
  exact lv_lload F.1 F.2.1 hd (hl.2.2 _ _ hg) (k F H locs ls hP hD hS hl)
theorem V_lldnG {i : Fin 4} {x : Int64} (hd : decode cc pc = .ok (.lload_n i, 1)) (hg : lget L i = some (.long x)) (k : V X D tc cc own nL (pc + 1) L (.long x :: st) ws) : V X D tc cc own nL pc L st ws := by
  intro F H locs ls hP hD hS hl
  exact lv_lload_n F.1 F.2.1 hd rfl (hl.2.2 _ _ hg) (k F H locs ls hP hD hS hl)
theorem V_lstG {i : Nat} {x : Int64} (hd : decode cc pc = .ok (.lstore i, 2)) (hn : i + 1 < nL) (hh : ∀ (j : Nat) (w : Value), lget L' j = some w → (j = i ∧ w = .long x) ∨ (¬ j = i ∧ ¬ j = i + 1 ∧ ¬ (j + 1 = i ∧ w.category = 2) ∧ lget L j = some w)) (k : V X D tc cc own nL (pc + 2) L' st ws) : V X D tc cc own nL pc L (.long x :: st) ws := by
  intro F H locs ls hP hD hS hl
  exact lv_lstore F.1 F.2.1 hd hl.has hn rfl (fun ls' hl' => k F H locs ls' hP hD hS (lvH.store2 hh hl'))
end
def ltM (u d : Nat) (w : Int32) : Int64 := if w = 0 then lN (u / Nat.gcd u d) else lN (d / Nat.gcd u d)
def omM (τ : Sm) (M p : Nat) (v th : Int32) : Nat → Nat
  | 0 => 0
  | k + 1 => if nI k &&& (th ^^^ (-1)) = 0 ∧ ¬ feM τ p (nI k) M < v then omM τ M p v th k + 1 else omM τ M p v th k
theorem omM_le (τ : Sm) (M p : Nat) (v th : Int32) : ∀ k, omM τ M p v th k ≤ k := by
  intro k
  induction k with
  | zero => exact Nat.le_refl _
  | succ k ih => unfold omM; split <;> omega
theorem odL_pos (th : Int32) : ∀ k, 0 < odL th (k + 1) := by
  intro k
  induction k with
  | zero =>
    unfold odL
    rw [if_pos (by rw [nI_0]; exact Int32.zero_and)]
    exact Nat.succ_pos _
  | succ k ih =>
    unfold odL
    split
    · exact Nat.succ_pos _
    · exact ih
def Rm_odds (τ : Sm) (M : Nat) (p v w : Int32) : Int64 := if isP (τ 5 0) p ∧ wiI v 0 99 ∧ wiI w 0 1 then ltM (omM τ M p.toNatClampNeg v (owM τ p M) (2 ^ M)) (odL (owM τ p M) (2 ^ M)) w else -9223372036854775808
section
variable {D : va_G} {tc : Tc} {B : Nat → Nat} {τ : Sm} {M P : Nat} {X : Cx} {ws : va_W}
set_option maxRecDepth 100000 in
set_option maxHeartbeats 4000000 in
theorem lt_loop {u d : Nat} {w : Int32} (hu : u < 2 ^ 20) (hd : d < 2 ^ 20) (hd0 : 0 < d) (hX : Aim X D (some .long) 0 (some (.long (ltM u d w))) ws) : ∀ (y x : Nat) (Z : Option Value), y < 2 ^ 20 → x < 2 ^ 20 → Nat.gcd x y = Nat.gcd u d → V X D tc cX6_inLeastTerms RX6 11 6 (Lg (lN u) (lN d) w (some (.long (lN x))) (some (.long (lN y))) Z) [] ws := by
  intro y
  induction y using Nat.strongRecOn with
  | ind y ih =>
    intro x Z hy hx hg
    refine V_lldG (i := 7) dX6_inLeastTerms_6 rfl ?_
    refine V_lconst 0 dX6_inLeastTerms_8 (by decide) ?_
    refine V_lcmp dX6_inLeastTerms_9 ?_
    refine V_if_eq 31 dX6_inLeastTerms_10 (by decide) (fun c10 => ?_) (fun c10 => ?_)
    · rw [lg_cmp0 (by omega)] at c10
      subst c10
      rw [Nat.gcd_zero_right] at hg
      have hx0 : 0 < x := by rw [hg]; exact Nat.gcd_pos_of_pos_right _ hd0
      refine V_iloadG (i := 4) dX6_inLeastTerms_31 rfl ?_
      refine V_if_ne 43 dX6_inLeastTerms_33 (by decide) (fun c33 => ?_) (fun c33 => ?_)
      · refine V_lldnG (i := 2) dX6_inLeastTerms_43 rfl ?_
        refine V_lldG (i := 5) dX6_inLeastTerms_44 rfl ?_
        refine V_ldiv dX6_inLeastTerms_46 (by rw [show (0 : Int64) = lN 0 by decide, lN_eq (by omega) (by decide)]; omega) ?_
        exact V_lret hX dX6_inLeastTerms_47 rfl (by rw [ltM, if_neg c33, pk_lDiv (by omega) hx0 (by omega), hg]) rfl
      · refine V_lldnG (i := 0) dX6_inLeastTerms_36 rfl ?_
        refine V_lldG (i := 5) dX6_inLeastTerms_37 rfl ?_
        refine V_ldiv dX6_inLeastTerms_39 (by rw [show (0 : Int64) = lN 0 by decide, lN_eq (by omega) (by decide)]; omega) ?_
        refine V_goto 47 dX6_inLeastTerms_40 (by decide) ?_
        exact V_lret hX dX6_inLeastTerms_47 rfl (by rw [ltM, if_pos c33, pk_lDiv (by omega) hx0 (by omega), hg]) rfl
    · rw [lg_cmp0 (by omega)] at c10
      have hy0 : 0 < y := by omega
      have hm := Nat.mod_lt x hy0
      refine V_lldG (i := 5) dX6_inLeastTerms_13 rfl ?_
      refine V_lldG (i := 7) dX6_inLeastTerms_15 rfl ?_
      refine V_lrem dX6_inLeastTerms_17 (by rw [show (0 : Int64) = lN 0 by decide, lN_eq (by omega) (by decide)]; omega) ?_
      rw [pk_lRem (by omega) hy0 (by omega)]
      refine V_lstG (i := 9) dX6_inLeastTerms_18 (by decide) lg_st9 ?_
      refine V_lldG (i := 7) dX6_inLeastTerms_20 rfl ?_
      refine V_lstG (i := 5) dX6_inLeastTerms_22 (by decide) lg_st5 ?_
      refine V_lldG (i := 9) dX6_inLeastTerms_24 rfl ?_
      refine V_lstG (i := 7) dX6_inLeastTerms_26 (by decide) lg_st7 ?_
      refine V_goto 6 dX6_inLeastTerms_28 (by decide) ?_
      exact ih (x % y) hm y _ (by omega) hy (by rw [← hg, Nat.gcd_comm x y, Nat.gcd_rec y x, Nat.gcd_comm])
set_option maxRecDepth 100000 in
set_option maxHeartbeats 4000000 in
theorem mk_inLeastTerms {u d : Nat} {w : Int32} (hu : u < 2 ^ 20) (hd : d < 2 ^ 20) (hd0 : 0 < d) : Ok 0 yX6_inLeastTerms cX6_inLeastTerms 11 (some .long) D tc [.long (lN u), .long (lN d), .int w] ws (some (.long (ltM u d w))) ws := by
  refine Ok_of RX6 rfl (by decide) (Lg (lN u) (lN d) w none none none) rfl (Nat.le_of_ble_eq_true rfl) ?_
  intro X hX
  refine V_lldnG (i := 0) dX6_inLeastTerms_0 rfl ?_
  refine V_lstG (i := 5) dX6_inLeastTerms_1 (by decide) lg_st5 ?_
  refine V_lldnG (i := 2) dX6_inLeastTerms_3 rfl ?_
  refine V_lstG (i := 7) dX6_inLeastTerms_4 (by decide) lg_st7 ?_
  exact lt_loop hu hd hd0 hX d u none hd hu rfl
set_option maxRecDepth 100000 in
set_option maxHeartbeats 4000000 in
theorem lo_oddsM (hM : τ 6 0 = nI M) (h6 : M ≤ 6) {j : Nat} (hj : j < 4) {v w : Int32} {R : Int64} (hR : ltM (omM τ M j v (owM τ (nI j) M) (2 ^ M)) (odL (owM τ (nI j) M) (2 ^ M)) w = R) (hX : Aim X D (some .long) 3 (some (.long R)) (mW B tc τ)) : V X D tc cX6_odds RX6 8 47 [some (.ref (B 0)), some (.int (nI j)), some (.int v), some (.int w), some (.int (owM τ (nI j) M)), some (.int (nI 0)), some (.int (nI 0)), some (.int (nI 0))] [] (mW B tc τ) := by
  have hp := p64 h6
  have lpS : ∀ k, k < 2 ^ M → V X D tc cX6_odds RX6 8 47 ((fun k => [some (.ref (B 0)), some (.int (nI j)), some (.int v), some (.int w), some (.int (owM τ (nI j) M)), some (.int (nI (omM τ M j v (owM τ (nI j) M) k))), some (.int (nI (odL (owM τ (nI j) M) k))), some (.int (nI k))]) (k + 1)) [] ((fun k => mW B tc τ) (k + 1)) → V X D tc cX6_odds RX6 8 47 ((fun k => [some (.ref (B 0)), some (.int (nI j)), some (.int v), some (.int w), some (.int (owM τ (nI j) M)), some (.int (nI (omM τ M j v (owM τ (nI j) M) k))), some (.int (nI (odL (owM τ (nI j) M) k))), some (.int (nI k))]) k) [] ((fun k => mW B tc τ) k) := by
    intro k hk ihlp
    refine V_ild7 dX6_odds_47 ?_
    refine V_iconst 1 dX6_odds_49 (by decide) ?_
    refine V_ald0 dX6_odds_50 ?_
    refine V_get lf_X6_93 dX6_odds_51 mW_obj rfl ?_
    refine V_ishl dX6_odds_54 ?_
    refine V_top (y := nI (2 ^ M)) (by rw [hM]; exact sh1 M h6) ?_
    refine V_icmp_ge 98 dX6_odds_55 (by decide) (fun c55 => ?_) (fun c55 => ?_)
    · exact absurd c55 (nI_ge hk (by omega))
    · refine V_ild7 dX6_odds_58 ?_
      refine V_ild4 dX6_odds_60 ?_
      refine V_iconst (-1) dX6_odds_62 (by decide) ?_
      refine V_ixor dX6_odds_63 ?_
      refine V_iand dX6_odds_64 ?_
      refine V_if_ne 92 dX6_odds_65 (by decide) (fun c65 => ?_) (fun c65 => ?_)
      · have e1 : odL (owM τ (nI j) M) (k + 1) = odL (owM τ (nI j) M) k := if_neg c65
        have e2 : omM τ M j v (owM τ (nI j) M) (k + 1) = omM τ M j v (owM τ (nI j) M) k := if_neg (fun z => c65 z.1)
        refine V_inc7 (nI (k + 1)) dX6_odds_92 (nI_inc k) rfl (by decide) ?_
        refine V_goto 47 dX6_odds_95 (by decide) ?_
        refine V_eq ?_ rfl rfl ihlp
        dsimp only
        rw [e1, e2]
      · have e1 : odL (owM τ (nI j) M) (k + 1) = odL (owM τ (nI j) M) k + 1 := if_pos c65
        refine V_inc6 (nI (odL (owM τ (nI j) M) (k + 1))) dX6_odds_68 (by rw [e1]; exact nI_inc _) rfl (by decide) ?_
        refine V_ild5 dX6_odds_71 ?_
        refine V_ald0 dX6_odds_73 ?_
        refine V_ild1 dX6_odds_74 ?_
        refine V_ild7 dX6_odds_75 ?_
        refine V_callV lm_X6_207 (mk_feastBy hM h6 j (by omega) _) dX6_odds_77 mW_obj rfl (dep hX (by decide)) rfl (Nat.le_of_ble_eq_true rfl) ?_
        refine V_ild2 dX6_odds_80 ?_
        refine V_icmp_lt 88 dX6_odds_81 (by decide) (fun c81 => ?_) (fun c81 => ?_)
        · have e2 : omM τ M j v (owM τ (nI j) M) (k + 1) = omM τ M j v (owM τ (nI j) M) k + 0 := if_neg (fun z => z.2 c81)
          refine V_iconst 0 dX6_odds_88 (by decide) ?_
          refine V_iadd dX6_odds_89 ?_
          refine V_top (y := nI (omM τ M j v (owM τ (nI j) M) (k + 1))) (by rw [e2]; exact nI_add _ _) ?_
          refine V_ist5 dX6_odds_90 rfl (by decide) ?_
          refine V_inc7 (nI (k + 1)) dX6_odds_92 (nI_inc k) rfl (by decide) ?_
          refine V_goto 47 dX6_odds_95 (by decide) ?_
          exact ihlp
        · have e2 : omM τ M j v (owM τ (nI j) M) (k + 1) = omM τ M j v (owM τ (nI j) M) k + 1 := if_pos ⟨c65, c81⟩
          refine V_iconst 1 dX6_odds_84 (by decide) ?_
          refine V_goto 89 dX6_odds_85 (by decide) ?_
          refine V_iadd dX6_odds_89 ?_
          refine V_top (y := nI (omM τ M j v (owM τ (nI j) M) (k + 1))) (by rw [e2]; exact nI_add _ _) ?_
          refine V_ist5 dX6_odds_90 rfl (by decide) ?_
          refine V_inc7 (nI (k + 1)) dX6_odds_92 (nI_inc k) rfl (by decide) ?_
          refine V_goto 47 dX6_odds_95 (by decide) ?_
          exact ihlp
  have lpE : V X D tc cX6_odds RX6 8 47 ((fun k => [some (.ref (B 0)), some (.int (nI j)), some (.int v), some (.int w), some (.int (owM τ (nI j) M)), some (.int (nI (omM τ M j v (owM τ (nI j) M) k))), some (.int (nI (odL (owM τ (nI j) M) k))), some (.int (nI k))]) (2 ^ M)) [] ((fun k => mW B tc τ) (2 ^ M)) := by
    have hL := odL_le (owM τ (nI j) M) (2 ^ M)
    have hU := omM_le τ M j v (owM τ (nI j) M) (2 ^ M)
    have hL0 : 0 < odL (owM τ (nI j) M) (2 ^ M) := by
      have h2 : 0 < 2 ^ M := Nat.two_pow_pos M
      obtain ⟨q, hq⟩ : ∃ q, 2 ^ M = q + 1 := ⟨2 ^ M - 1, by omega⟩
      rw [hq]
      exact odL_pos _ q
    refine V_ild7 dX6_odds_47 ?_
    refine V_iconst 1 dX6_odds_49 (by decide) ?_
    refine V_ald0 dX6_odds_50 ?_
    refine V_get lf_X6_93 dX6_odds_51 mW_obj rfl ?_
    refine V_ishl dX6_odds_54 ?_
    refine V_top (y := nI (2 ^ M)) (by rw [hM]; exact sh1 M h6) ?_
    refine V_icmp_ge 98 dX6_odds_55 (by decide) (fun c55 => ?_) (fun c55 => ?_)
    · refine V_ild5 dX6_odds_98 ?_
      skip
      refine V_i2l dX6_odds_100 ?_
      refine V_ild6 dX6_odds_101 ?_
      refine V_i2l dX6_odds_103 ?_
      refine V_ild3 dX6_odds_104 ?_
      rw [nI_l (by omega), nI_l (by omega)]
      refine V_callS ls_X6_239 (mk_inLeastTerms (w := w) (by omega) (by omega) hL0) dX6_odds_105 (dep hX (by decide)) rfl (Nat.le_of_ble_eq_true rfl) ?_
      exact V_lret hX dX6_odds_108 rfl (by rw [← hR]) rfl
    · exact absurd (Int32.le_refl _) c55
  have lp := V_for (fun k => [some (.ref (B 0)), some (.int (nI j)), some (.int v), some (.int w), some (.int (owM τ (nI j) M)), some (.int (nI (omM τ M j v (owM τ (nI j) M) k))), some (.int (nI (odL (owM τ (nI j) M) k))), some (.int (nI k))]) (fun k => mW B tc τ) (2 ^ M) lpS lpE
  exact lp 0 (Nat.zero_le _)
set_option maxRecDepth 100000 in
set_option maxHeartbeats 4000000 in
theorem mk_odds (hP : τ 5 0 = nI P) (h4 : P ≤ 4) (hM : τ 6 0 = nI M) (h6 : M ≤ 6) (p v w : Int32) : Ok 3 yX6_odds cX6_odds 8 (some .long) D tc [.ref (B 0), .int p, .int v, .int w] (mW B tc τ) (some (.long (Rm_odds τ M p v w))) (mW B tc τ) := by
  refine Ok_of RX6 rfl (by decide) [some (.ref (B 0)), some (.int p), some (.int v), some (.int w), none, none, none, none] rfl (Nat.le_of_ble_eq_true rfl) ?_
  intro X hX
  refine V_ald0 dX6_odds_0 ?_
  refine V_ild1 dX6_odds_1 ?_
  refine V_callV lm_X6_159 (mk_isPerson _) dX6_odds_2 mW_obj rfl (dep hX (by decide)) rfl (Nat.le_of_ble_eq_true rfl) ?_
  refine V_if_eq 27 dX6_odds_5 (by decide) (fun c5 => ?_) (fun c5 => ?_)
  · try rw [b2i_eq] at c5
    try rw [Decidable.not_not] at c5
    refine V_ldc2 _ wC_X6_84 dX6_odds_27 ?_
    exact V_lret hX dX6_odds_30 rfl (by rw [Rm_odds, if_neg (by first | exact fun z => c5 z.1 | exact fun z => c15 z.2.1 | exact fun z => c24 z.2.2)]) rfl
  · try rw [b2i_ne] at c5
    try rw [Decidable.not_not] at c5
    refine V_ild2 dX6_odds_8 ?_
    refine V_iconst 0 dX6_odds_9 (by decide) ?_
    refine V_bipush 99 dX6_odds_10 (by decide) ?_
    refine V_callS ls_X6_86 (mk_within _ _ _) dX6_odds_12 (dep hX (by decide)) rfl (Nat.le_of_ble_eq_true rfl) ?_
    refine V_if_eq 27 dX6_odds_15 (by decide) (fun c15 => ?_) (fun c15 => ?_)
    · try rw [b2i_eq] at c15
      try rw [Decidable.not_not] at c15
      refine V_ldc2 _ wC_X6_84 dX6_odds_27 ?_
      exact V_lret hX dX6_odds_30 rfl (by rw [Rm_odds, if_neg (by first | exact fun z => c5 z.1 | exact fun z => c15 z.2.1 | exact fun z => c24 z.2.2)]) rfl
    · try rw [b2i_ne] at c15
      try rw [Decidable.not_not] at c15
      refine V_ild3 dX6_odds_18 ?_
      refine V_iconst 0 dX6_odds_19 (by decide) ?_
      refine V_iconst 1 dX6_odds_20 (by decide) ?_
      refine V_callS ls_X6_86 (mk_within _ _ _) dX6_odds_21 (dep hX (by decide)) rfl (Nat.le_of_ble_eq_true rfl) ?_
      refine V_if_ne 31 dX6_odds_24 (by decide) (fun c24 => ?_) (fun c24 => ?_)
      · try rw [b2i_ne] at c24
        try rw [Decidable.not_not] at c24
        obtain ⟨j, hj, ej⟩ := isP_of hP (by omega) c5
        subst ej
        have hcj : (nI j).toNatClampNeg = j := nI_clamp (by omega)
        refine V_ald0 dX6_odds_31 ?_
        refine V_ild1 dX6_odds_32 ?_
        refine V_callV lm_X6_162 (mk_ownOf hM h6 _) dX6_odds_33 mW_obj rfl (dep hX (by decide)) rfl (Nat.le_of_ble_eq_true rfl) ?_
        refine V_ist4 dX6_odds_36 rfl (by decide) ?_
        refine V_iconst 0 dX6_odds_38 (by decide) ?_
        refine V_ist5 dX6_odds_39 rfl (by decide) ?_
        refine V_iconst 0 dX6_odds_41 (by decide) ?_
        refine V_ist6 dX6_odds_42 rfl (by decide) ?_
        refine V_iconst 0 dX6_odds_44 (by decide) ?_
        refine V_ist7 dX6_odds_45 rfl (by decide) ?_
        exact lo_oddsM hM h6 (by omega) (by rw [Rm_odds, if_pos ⟨c5, c15, c24⟩, hcj]) hX
      · try rw [b2i_eq] at c24
        try rw [Decidable.not_not] at c24
        refine V_ldc2 _ wC_X6_84 dX6_odds_27 ?_
        exact V_lret hX dX6_odds_30 rfl (by rw [Rm_odds, if_neg (by first | exact fun z => c5 z.1 | exact fun z => c15 z.2.1 | exact fun z => c24 z.2.2)]) rfl
end
