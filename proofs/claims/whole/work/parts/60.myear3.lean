section
variable {D : va_G} {tc : Tc} {B : Nat → Nat} {τ τ0 : Sm} {M P : Nat} {X : Cx}
theorem nI_two (s k : Nat) : nI s + 2 * nI k = nI (s + 2 * k) := by
  rw [show (2 : Int32) = nI 2 by decide, pk_mul, nI_add]
theorem nI_two1 (s k : Nat) : nI s + 2 * nI k + 1 = nI (s + 2 * k + 1) := by
  rw [nI_two, nI_1]
theorem GI_ka {P M : Nat} {τ : Sm} (hP : τ 5 0 = nI P) (hM : τ 6 0 = nI M) (hw : ∀ m, m < M → ∃ q, q < P ∧ τ 13 m = nI q) (hz : z01 (τ 11) 4) (hy : z01 (τ 16) 6) : GI P M (kaM τ) :=
  ⟨hP, hM, hw, fun i hi => by show cpN (τ 11) (τ 26) 4 i = 0 ∨ cpN (τ 11) (τ 26) 4 i = 1; rw [cpN_i hi]; exact hz i hi, fun i hi => by show cpN (τ 16) (τ 28) 6 i = 0 ∨ cpN (τ 16) (τ 28) 6 i = 1; rw [cpN_i hi]; exact hy i hi⟩
theorem rf_x {mo x y : Int32} {M : Nat} (hM : mo = nI M) (h6 : M < 2 ^ 31) (h : rfI mo x y = 0) : ¬ y = 9 → ∃ m, m < M ∧ x = nI m := by
  intro h9
  unfold rfI at h
  rw [if_neg h9] at h
  split at h
  · exact absurd h (by decide)
  · split at h
    · rename_i hp
      obtain ⟨k, hk, e⟩ := isP_of hM h6 hp
      exact ⟨k, hk, e⟩
    · exact absurd h (by decide)
theorem n20 {n : Int32} (h : wiI n 0 20) : ∃ e : Nat, e ≤ 20 ∧ n = nI e := by
  obtain ⟨j, hj, e⟩ := nI_of h.1
  refine ⟨j, ?_, e⟩
  have h2 := h.2
  rw [e, show (20 : Int32) = nI 20 by decide, nI_ltI (by decide) (by omega)] at h2
  omega
theorem yg_hit {τ : Sm} {P : Nat} {X Y : Nat → Int32} {k : Nat} (h : (yg τ P X Y k).1 = -9) (hg : goI (yg τ P X Y k).2 (X k) (Y k) = 0) : yg τ P X Y (k + 1) = (nI k, (yg τ P X Y k).2) := by
  rw [yg, if_pos h, if_pos hg]
theorem yg_go {τ : Sm} {P : Nat} {X Y : Nat → Int32} {k : Nat} (h : (yg τ P X Y k).1 = -9) (hg : ¬ goI (yg τ P X Y k).2 (X k) (Y k) = 0) : yg τ P X Y (k + 1) = (-9, goS (yg τ P X Y k).2 P (X k) (Y k)) := by
  rw [yg, if_pos h, if_neg hg]
set_option maxRecDepth 100000 in
set_option maxHeartbeats 4000000 in
theorem yr_x (hP : τ 5 0 = nI P) (h4 : P ≤ 4) (hM : τ 6 0 = nI M) (h6 : M ≤ 6) {j a e : Nat} (hj : j < 4) (hae : a + 2 * e ≤ 60) (hw : ∀ m, m < M → ∃ q, q < P ∧ τ 13 m = nI q) (hz : z01 (τ 11) 4) (hy : z01 (τ 16) 6) {l w : Int32} {R : Int32} {S : Sm} (hX : Aim X D (some .int) 4 (some (.int R)) (mW B tc S)) (eR : R = (if w = 1 then (ygT τ P (i6 j a) e).1 else if (ygT τ P (i6 j a) e).1 = -9 then tyM (ygT τ P (i6 j a) e).2 P M w else -100 - (ygT τ P (i6 j a) e).1)) (eS : S = pbM (ygT τ P (i6 j a) e).2) : V X D tc cX6_year RX6 11 265 [some (.ref (B 0)), some (.int (nI j)), some (.int l), some (.int (nI a)), some (.int (nI e)), some (.int w), some (.int (b2i (yeM w))), some (.int 0), some (.int (nI (i6 j a))), some (.int (ygT τ P (i6 j a) e).1), none] [] (mW B tc (ygT τ P (i6 j a) e).2) := by
  have hG : GI P M (ygT τ P (i6 j a) e).2 := GI_yg h4 (GI_ka hP hM hw hz hy) e
  refine V_ald0 dX6_year_265 ?_
  refine V_ild5 dX6_year_266 ?_
  refine V_callV lm_X6_197 (mk_tellYear hG.1 h4 hG.2.1 h6 _) dX6_year_268 mW_obj rfl (dep hX (by decide)) rfl (Nat.le_of_ble_eq_true rfl) ?_
  refine V_ist10 dX6_year_271 rfl (by decide) ?_
  refine V_ald0 dX6_year_273 ?_
  refine V_callVv lm_X6_200 (mk_putBack hG.2.2.2.1 hG.2.2.2.2) dX6_year_274 mW_obj rfl (dep hX (by decide)) rfl (Nat.le_of_ble_eq_true rfl) ?_
  refine V_ild5 dX6_year_277 ?_
  refine V_iconst 1 dX6_year_279 (by decide) ?_
  refine V_icmp_ne 288 dX6_year_280 (by decide) (fun c280 => ?_) (fun c280 => ?_)
  · rw [if_neg c280] at eR
    refine V_ild9 dX6_year_288 ?_
    refine V_bipush (-9) dX6_year_290 (by decide) ?_
    refine V_icmp_ne 300 dX6_year_292 (by decide) (fun c292 => ?_) (fun c292 => ?_)
    · rw [if_neg c292] at eR
      refine V_bipush (-100) dX6_year_300 (by decide) ?_
      refine V_ild9 dX6_year_302 ?_
      refine V_isub dX6_year_304 ?_
      exact V_iret hX dX6_year_305 rfl (by rw [eR]) (by rw [eS])
    · rw [if_pos c292] at eR
      refine V_ild10 dX6_year_295 ?_
      refine V_goto 305 dX6_year_297 (by decide) ?_
      exact V_iret hX dX6_year_305 rfl (by rw [eR]) (by rw [eS])
  · rw [if_pos c280] at eR
    refine V_ild9 dX6_year_283 ?_
    refine V_goto 305 dX6_year_285 (by decide) ?_
    exact V_iret hX dX6_year_305 rfl (by rw [eR]) (by rw [eS])
theorem go_no {τ : Sm} {P : Nat} {x y : Int32} (h : goI τ x y = 0) : goS τ P x y = τ := by
  unfold goI at h
  unfold goS
  split
  · rename_i h9
    rw [if_pos h9, b2i_eq] at h
    rw [if_neg h]
  · rename_i h9
    rw [if_neg h9] at h
    split
    · rename_i h8
      rw [if_pos h8, b2i_eq] at h
      rw [if_neg h]
    · rename_i h8
      rw [if_neg h8, b2i_eq] at h
      rw [if_neg h]
set_option maxRecDepth 100000 in
set_option maxHeartbeats 4000000 in
theorem yr_y (hP : τ 5 0 = nI P) (h4 : P ≤ 4) (hM : τ 6 0 = nI M) (h6 : M ≤ 6) {j a e : Nat} (hj : j < 4) (hae : a + 2 * e ≤ 60) (hw : ∀ m, m < M → ∃ q, q < P ∧ τ 13 m = nI q) (hz : z01 (τ 11) 4) (hy : z01 (τ 16) 6) {l w : Int32} (hr : rfM τ (i6 j a) e = 0) {R : Int32} {S : Sm} (hX : Aim X D (some .int) 4 (some (.int R)) (mW B tc S)) (eR : R = (if w = 1 then (ygT τ P (i6 j a) e).1 else if (ygT τ P (i6 j a) e).1 = -9 then tyM (ygT τ P (i6 j a) e).2 P M w else -100 - (ygT τ P (i6 j a) e).1)) (eS : S = pbM (ygT τ P (i6 j a) e).2) : V X D tc cX6_year RX6 11 203 [some (.ref (B 0)), some (.int (nI j)), some (.int l), some (.int (nI a)), some (.int (nI e)), some (.int w), some (.int (b2i (yeM w))), some (.int 0), some (.int (nI (i6 j a))), some (.int (-9)), some (.int (nI 0))] [] (mW B tc (kaM τ)) := by
  have lyS : ∀ k, k < e → (fun k => (yg (kaM τ) P (fun k => τ 4 (i6 j a + 2 * k)) (fun k => τ 4 (i6 j a + 2 * k + 1)) k).1 = -9) k → ((fun k => (yg (kaM τ) P (fun k => τ 4 (i6 j a + 2 * k)) (fun k => τ 4 (i6 j a + 2 * k + 1)) k).1 = -9) (k + 1) → V X D tc cX6_year RX6 11 203 ((fun k => [some (.ref (B 0)), some (.int (nI j)), some (.int l), some (.int (nI a)), some (.int (nI e)), some (.int w), some (.int (b2i (yeM w))), some (.int 0), some (.int (nI (i6 j a))), some (.int (yg (kaM τ) P (fun k => τ 4 (i6 j a + 2 * k)) (fun k => τ 4 (i6 j a + 2 * k + 1)) k).1), some (.int (nI k))]) (k + 1)) [] ((fun k => mW B tc (yg (kaM τ) P (fun k => τ 4 (i6 j a + 2 * k)) (fun k => τ 4 (i6 j a + 2 * k + 1)) k).2) (k + 1))) → V X D tc cX6_year RX6 11 203 ((fun k => [some (.ref (B 0)), some (.int (nI j)), some (.int l), some (.int (nI a)), some (.int (nI e)), some (.int w), some (.int (b2i (yeM w))), some (.int 0), some (.int (nI (i6 j a))), some (.int (yg (kaM τ) P (fun k => τ 4 (i6 j a + 2 * k)) (fun k => τ 4 (i6 j a + 2 * k + 1)) k).1), some (.int (nI k))]) k) [] ((fun k => mW B tc (yg (kaM τ) P (fun k => τ 4 (i6 j a + 2 * k)) (fun k => τ 4 (i6 j a + 2 * k + 1)) k).2) k) := by
    intro k hk invly ihly
    try dsimp only at invly
    have hG : GI P M (yg (kaM τ) P (fun k => τ 4 (i6 j a + 2 * k)) (fun k => τ 4 (i6 j a + 2 * k + 1)) k).2 := GI_yg h4 (GI_ka hP hM hw hz hy) k
    have h4c : (yg (kaM τ) P (fun k => τ 4 (i6 j a + 2 * k)) (fun k => τ 4 (i6 j a + 2 * k + 1)) k).2 4 = τ 4 := yg_4 k
    have hrk : rfI (τ 6 0) (τ 4 (i6 j a + 2 * k)) (τ 4 (i6 j a + 2 * k + 1)) = 0 := ffR_all e hr k hk
    have hx : ¬ τ 4 (i6 j a + 2 * k + 1) = 9 → ∃ m q, m < 6 ∧ q < 4 ∧ τ 4 (i6 j a + 2 * k) = nI m ∧ (yg (kaM τ) P (fun k => τ 4 (i6 j a + 2 * k)) (fun k => τ 4 (i6 j a + 2 * k + 1)) k).2 13 m = nI q := by
      intro h9
      obtain ⟨m, hm, em⟩ := rf_x hM (by omega) hrk h9
      obtain ⟨q, hq, eq⟩ := hG.2.2.1 m hm
      exact ⟨m, q, by omega, by omega, em, eq⟩
    refine V_ild10 dX6_year_203 ?_
    refine V_ild4 dX6_year_205 ?_
    refine V_icmp_ge 265 dX6_year_207 (by decide) (fun c207 => ?_) (fun c207 => ?_)
    · exact absurd c207 (nI_ge hk (by omega))
    · refine V_ild9 dX6_year_210 ?_
      refine V_bipush (-9) dX6_year_212 (by decide) ?_
      refine V_icmp_ne 265 dX6_year_214 (by decide) (fun c214 => ?_) (fun c214 => ?_)
      · exact absurd invly c214
      · refine V_ald0 dX6_year_217 ?_
        refine V_ald0 dX6_year_218 ?_
        refine V_get lf_X6_16 dX6_year_219 mW_obj rfl ?_
        refine V_ild8 dX6_year_222 ?_
        refine V_iconst 2 dX6_year_224 (by decide) ?_
        refine V_ild10 dX6_year_225 ?_
        refine V_imul dX6_year_227 ?_
        refine V_iadd dX6_year_228 ?_
        refine V_top (y := nI (i6 j a + 2 * k)) (nI_two _ _) ?_
        refine V_ialdk dX6_year_229 mW_a4 ⟨by unfold i6; omega, by decide⟩ ?_
        refine V_top (y := τ 4 (i6 j a + 2 * k)) (congrFun h4c _) ?_
        refine V_ald0 dX6_year_230 ?_
        refine V_get lf_X6_16 dX6_year_231 mW_obj rfl ?_
        refine V_ild8 dX6_year_234 ?_
        refine V_iconst 2 dX6_year_236 (by decide) ?_
        refine V_ild10 dX6_year_237 ?_
        refine V_imul dX6_year_239 ?_
        refine V_iadd dX6_year_240 ?_
        refine V_iconst 1 dX6_year_241 (by decide) ?_
        refine V_iadd dX6_year_242 ?_
        refine V_top (y := nI (i6 j a + 2 * k + 1)) (nI_two1 _ _) ?_
        refine V_ialdk dX6_year_243 mW_a4 ⟨by unfold i6; omega, by decide⟩ ?_
        refine V_top (y := τ 4 (i6 j a + 2 * k + 1)) (congrFun h4c _) ?_
        refine V_callV lm_X6_194 (mk_goes hG.1 h4 (τ 4 (i6 j a + 2 * k)) (τ 4 (i6 j a + 2 * k + 1)) hx) dX6_year_244 mW_obj rfl (dep hX (by decide)) rfl (Nat.le_of_ble_eq_true rfl) ?_
        refine V_if_eq 255 dX6_year_247 (by decide) (fun c247 => ?_) (fun c247 => ?_)
        · change goI _ (τ 4 (i6 j a + 2 * k)) (τ 4 (i6 j a + 2 * k + 1)) = 0 at c247
          rw [show goS (yg (kaM τ) P (fun k => τ 4 (i6 j a + 2 * k)) (fun k => τ 4 (i6 j a + 2 * k + 1)) k).2 P (τ 4 (i6 j a + 2 * k)) (τ 4 (i6 j a + 2 * k + 1)) = (yg (kaM τ) P (fun k => τ 4 (i6 j a + 2 * k)) (fun k => τ 4 (i6 j a + 2 * k + 1)) k).2 from go_no c247]
          refine V_ild10 dX6_year_255 ?_
          refine V_ist9 dX6_year_257 rfl (by decide) ?_
          refine V_inc10 (nI (k + 1)) dX6_year_259 (nI_inc k) rfl (by decide) ?_
          refine V_goto 203 dX6_year_262 (by decide) ?_
          refine V_ild10 dX6_year_203 ?_
          refine V_ild4 dX6_year_205 ?_
          refine V_icmp_ge 265 dX6_year_207 (by decide) (fun c207 => ?_) (fun c207 => ?_)
          · refine V_dr10 ?_
            have e9 : ygT τ P (i6 j a) e = (nI k, (yg (kaM τ) P (fun k => τ 4 (i6 j a + 2 * k)) (fun k => τ 4 (i6 j a + 2 * k + 1)) k).2) := (yg_stop (by rw [yg_hit invly c247]; exact nI_ne9 (by omega)) e (by omega)).trans (yg_hit invly c247)
            have z := yr_x (l := l) hP h4 hM h6 hj hae hw hz hy hX eR eS
            rw [e9] at z
            exact z
          · refine V_ild9 dX6_year_210 ?_
            refine V_bipush (-9) dX6_year_212 (by decide) ?_
            refine V_icmp_ne 265 dX6_year_214 (by decide) (fun c214 => ?_) (fun c214 => ?_)
            · refine V_dr10 ?_
              have e9 : ygT τ P (i6 j a) e = (nI k, (yg (kaM τ) P (fun k => τ 4 (i6 j a + 2 * k)) (fun k => τ 4 (i6 j a + 2 * k + 1)) k).2) := (yg_stop (by rw [yg_hit invly c247]; exact nI_ne9 (by omega)) e (by omega)).trans (yg_hit invly c247)
              have z := yr_x (l := l) hP h4 hM h6 hj hae hw hz hy hX eR eS
              rw [e9] at z
              exact z
            · exact absurd c214 (nI_ne9 (by omega))
        · try rw [b2i_ne] at c247
          try rw [Decidable.not_not] at c247
          refine V_bipush (-9) dX6_year_250 (by decide) ?_
          refine V_goto 257 dX6_year_252 (by decide) ?_
          refine V_ist9 dX6_year_257 rfl (by decide) ?_
          refine V_inc10 (nI (k + 1)) dX6_year_259 (nI_inc k) rfl (by decide) ?_
          refine V_goto 203 dX6_year_262 (by decide) ?_
          have e9 := yg_go (X := (fun k => τ 4 (i6 j a + 2 * k))) (Y := (fun k => τ 4 (i6 j a + 2 * k + 1))) invly c247
          refine V_eq ?_ rfl ?_ (ihly (by dsimp only; rw [e9]))
          · dsimp only; rw [e9]
          · dsimp only; rw [e9]
  have lyE : (fun k => (yg (kaM τ) P (fun k => τ 4 (i6 j a + 2 * k)) (fun k => τ 4 (i6 j a + 2 * k + 1)) k).1 = -9) (e) → V X D tc cX6_year RX6 11 203 ((fun k => [some (.ref (B 0)), some (.int (nI j)), some (.int l), some (.int (nI a)), some (.int (nI e)), some (.int w), some (.int (b2i (yeM w))), some (.int 0), some (.int (nI (i6 j a))), some (.int (yg (kaM τ) P (fun k => τ 4 (i6 j a + 2 * k)) (fun k => τ 4 (i6 j a + 2 * k + 1)) k).1), some (.int (nI k))]) (e)) [] ((fun k => mW B tc (yg (kaM τ) P (fun k => τ 4 (i6 j a + 2 * k)) (fun k => τ 4 (i6 j a + 2 * k + 1)) k).2) (e)) := by
    intro invly
    try dsimp only at invly
    refine V_ild10 dX6_year_203 ?_
    refine V_ild4 dX6_year_205 ?_
    refine V_icmp_ge 265 dX6_year_207 (by decide) (fun c207 => ?_) (fun c207 => ?_)
    · refine V_dr10 ?_
      exact yr_x hP h4 hM h6 hj hae hw hz hy hX eR eS
    · exact absurd (Int32.le_refl _) c207
  have ly := V_forI (fun k => (yg (kaM τ) P (fun k => τ 4 (i6 j a + 2 * k)) (fun k => τ 4 (i6 j a + 2 * k + 1)) k).1 = -9) (fun k => [some (.ref (B 0)), some (.int (nI j)), some (.int l), some (.int (nI a)), some (.int (nI e)), some (.int w), some (.int (b2i (yeM w))), some (.int 0), some (.int (nI (i6 j a))), some (.int (yg (kaM τ) P (fun k => τ 4 (i6 j a + 2 * k)) (fun k => τ 4 (i6 j a + 2 * k + 1)) k).1), some (.int (nI k))]) (fun k => mW B tc (yg (kaM τ) P (fun k => τ 4 (i6 j a + 2 * k)) (fun k => τ 4 (i6 j a + 2 * k + 1)) k).2) (e) lyS lyE
  exact ly 0 (Nat.zero_le _) rfl
set_option maxRecDepth 100000 in
set_option maxHeartbeats 4000000 in
theorem yr_a (hP : τ 5 0 = nI P) (h4 : P ≤ 4) (hM : τ 6 0 = nI M) (h6 : M ≤ 6) {j a e : Nat} (hj : j < 4) (hae : a + 2 * e ≤ 60) (hw : ∀ m, m < M → ∃ q, q < P ∧ τ 13 m = nI q) (hz : z01 (τ 11) 4) (hy : z01 (τ 16) 6) {l w : Int32} {R : Int32} {S : Sm} (hX : Aim X D (some .int) 4 (some (.int R)) (mW B tc S)) (eR : R = (if rfM τ (i6 j a) e = 0 then (if w = 1 then (ygT τ P (i6 j a) e).1 else if (ygT τ P (i6 j a) e).1 = -9 then tyM (ygT τ P (i6 j a) e).2 P M w else -100 - (ygT τ P (i6 j a) e).1) else rfM τ (i6 j a) e)) (eS : S = (if rfM τ (i6 j a) e = 0 then pbM (ygT τ P (i6 j a) e).2 else τ)) : V X D tc cX6_year RX6 11 139 [some (.ref (B 0)), some (.int (nI j)), some (.int l), some (.int (nI a)), some (.int (nI e)), some (.int w), some (.int (b2i (yeM w))), some (.int 0), some (.int (nI (i6 j a))), some (.int (nI 0)), none] [] (mW B tc τ) := by
  have laS : ∀ k, k < e → (fun k => rfM τ (i6 j a) k = 0) k → ((fun k => rfM τ (i6 j a) k = 0) (k + 1) → V X D tc cX6_year RX6 11 139 ((fun k => [some (.ref (B 0)), some (.int (nI j)), some (.int l), some (.int (nI a)), some (.int (nI e)), some (.int w), some (.int (b2i (yeM w))), some (.int 0), some (.int (nI (i6 j a))), some (.int (nI k)), none]) (k + 1)) [] ((fun k => mW B tc τ) (k + 1))) → V X D tc cX6_year RX6 11 139 ((fun k => [some (.ref (B 0)), some (.int (nI j)), some (.int l), some (.int (nI a)), some (.int (nI e)), some (.int w), some (.int (b2i (yeM w))), some (.int 0), some (.int (nI (i6 j a))), some (.int (nI k)), none]) k) [] ((fun k => mW B tc τ) k) := by
    intro k hk invla ihla
    try dsimp only at invla
    refine V_ild9 dX6_year_139 ?_
    refine V_ild4 dX6_year_141 ?_
    refine V_icmp_ge 192 dX6_year_143 (by decide) (fun c143 => ?_) (fun c143 => ?_)
    · exact absurd c143 (nI_ge hk (by omega))
    · refine V_ald0 dX6_year_146 ?_
      refine V_ald0 dX6_year_147 ?_
      refine V_get lf_X6_16 dX6_year_148 mW_obj rfl ?_
      refine V_ild8 dX6_year_151 ?_
      refine V_iconst 2 dX6_year_153 (by decide) ?_
      refine V_ild9 dX6_year_154 ?_
      refine V_imul dX6_year_156 ?_
      refine V_iadd dX6_year_157 ?_
      refine V_top (y := nI (i6 j a + 2 * k)) (nI_two _ _) ?_
      refine V_ialdk dX6_year_158 mW_a4 ⟨by unfold i6; omega, by decide⟩ ?_
      refine V_ald0 dX6_year_159 ?_
      refine V_get lf_X6_16 dX6_year_160 mW_obj rfl ?_
      refine V_ild8 dX6_year_163 ?_
      refine V_iconst 2 dX6_year_165 (by decide) ?_
      refine V_ild9 dX6_year_166 ?_
      refine V_imul dX6_year_168 ?_
      refine V_iadd dX6_year_169 ?_
      refine V_iconst 1 dX6_year_170 (by decide) ?_
      refine V_iadd dX6_year_171 ?_
      refine V_top (y := nI (i6 j a + 2 * k + 1)) (nI_two1 _ _) ?_
      refine V_ialdk dX6_year_172 mW_a4 ⟨by unfold i6; omega, by decide⟩ ?_
      refine V_callV lm_X6_188 (mk_refusesPair _ _) dX6_year_173 mW_obj rfl (dep hX (by decide)) rfl (Nat.le_of_ble_eq_true rfl) ?_
      refine V_ist10 dX6_year_176 rfl (by decide) ?_
      refine V_ild10 dX6_year_178 ?_
      refine V_if_eq 186 dX6_year_180 (by decide) (fun c180 => ?_) (fun c180 => ?_)
      · refine V_inc9 (nI (k + 1)) dX6_year_186 (nI_inc k) rfl (by decide) ?_
        refine V_goto 139 dX6_year_189 (by decide) ?_
        refine V_dr10 ?_
        exact ihla ((if_pos invla).trans c180)
      · have e9 : rfM τ (i6 j a) e = rfI (τ 6 0) (τ 4 (i6 j a + 2 * k)) (τ 4 (i6 j a + 2 * k + 1)) := ffR_hit (f := fun k => rfI (τ 6 0) (τ 4 (i6 j a + 2 * k)) (τ 4 (i6 j a + 2 * k + 1))) invla c180 e hk
        rw [if_neg (by rw [e9]; exact c180), e9] at eR
        rw [if_neg (by rw [e9]; exact c180)] at eS
        refine V_ild10 dX6_year_183 ?_
        exact V_iret hX dX6_year_185 rfl (by rw [eR]) (by rw [eS])
  have laE : (fun k => rfM τ (i6 j a) k = 0) (e) → V X D tc cX6_year RX6 11 139 ((fun k => [some (.ref (B 0)), some (.int (nI j)), some (.int l), some (.int (nI a)), some (.int (nI e)), some (.int w), some (.int (b2i (yeM w))), some (.int 0), some (.int (nI (i6 j a))), some (.int (nI k)), none]) (e)) [] ((fun k => mW B tc τ) (e)) := by
    intro invla
    try dsimp only at invla
    refine V_ild9 dX6_year_139 ?_
    refine V_ild4 dX6_year_141 ?_
    refine V_icmp_ge 192 dX6_year_143 (by decide) (fun c143 => ?_) (fun c143 => ?_)
    · refine V_ald0 dX6_year_192 ?_
      refine V_callVv lm_X6_191 (mk_keepAll hz hy) dX6_year_193 mW_obj rfl (dep hX (by decide)) rfl (Nat.le_of_ble_eq_true rfl) ?_
      refine V_bipush (-9) dX6_year_196 (by decide) ?_
      refine V_ist9 dX6_year_198 rfl (by decide) ?_
      refine V_iconst 0 dX6_year_200 (by decide) ?_
      refine V_ist10 dX6_year_201 rfl (by decide) ?_
      rw [if_pos invla] at eR eS
      exact yr_y hP h4 hM h6 hj hae hw hz hy invla hX eR eS
    · exact absurd (Int32.le_refl _) c143
  have la := V_forI (fun k => rfM τ (i6 j a) k = 0) (fun k => [some (.ref (B 0)), some (.int (nI j)), some (.int l), some (.int (nI a)), some (.int (nI e)), some (.int w), some (.int (b2i (yeM w))), some (.int 0), some (.int (nI (i6 j a))), some (.int (nI k)), none]) (fun k => mW B tc τ) (e) laS laE
  exact la 0 (Nat.zero_le _) rfl
set_option maxRecDepth 100000 in
set_option maxHeartbeats 4000000 in
theorem mk_year (hP : τ 5 0 = nI P) (h4 : P ≤ 4) (hM : τ 6 0 = nI M) (h6 : M ≤ 6) {j N : Nat} (hj : j < 4) (hN : τ 3 j = nI N) (h60 : N ≤ 60) (hw : ∀ m, m < M → ∃ q, q < P ∧ τ 13 m = nI q) (hz : z01 (τ 11) 4) (hy : z01 (τ 16) 6) (l i n w : Int32) : Ok 4 yX6_year cX6_year 11 (some .int) D tc [.ref (B 0), .int (nI j), .int l, .int i, .int n, .int w] (mW B tc τ) (some (.int (Rm_year (um τ 0 0 0) P M j l i n w))) (mW B tc (Sm_year (um τ 0 0 0) P j l i n w)) := by
  refine Ok_of RX6 rfl (by decide) [some (.ref (B 0)), some (.int (nI j)), some (.int l), some (.int i), some (.int n), some (.int w), none, none, none, none, none] rfl (Nat.le_of_ble_eq_true rfl) ?_
  intro X hX
  refine V_ald0 dX6_year_0 ?_
  refine V_iconst 0 dX6_year_1 (by decide) ?_
  refine V_puti lp_X6_80 dX6_year_2 mW_obj (Nat.le_of_ble_eq_true rfl) (mW_p0 _) ?_
  change V _ _ _ _ _ _ _ _ _ (mW B tc (um τ 0 0 0))
  have hN := (show um τ 0 0 0 3 j = nI N from hN)
  have hP := (show um τ 0 0 0 5 0 = nI P from hP)
  have hM := (show um τ 0 0 0 6 0 = nI M from hM)
  have hw := (show ∀ m, m < M → ∃ q, q < P ∧ um τ 0 0 0 13 m = nI q from hw)
  have hz := (show z01 (um τ 0 0 0 11) 4 from hz)
  have hy := (show z01 (um τ 0 0 0 16) 6 from hy)
  generalize um τ 0 0 0 = τ at hX hN hP hM hw hz hy ⊢
  have kk : V X D tc cX6_year RX6 11 65 [some (.ref (B 0)), some (.int (nI j)), some (.int l), some (.int i), some (.int n), some (.int w), none, none, none, none, none] [.int (b2i (yeM w))] (mW B tc τ) := by
    refine V_ist6 dX6_year_65 rfl (by decide) ?_
    refine V_ild2 dX6_year_67 ?_
    refine V_callS ls_X6_103 (mk_isSort _) dX6_year_68 (dep hX (by decide)) rfl (Nat.le_of_ble_eq_true rfl) ?_
    refine V_if_eq 90 dX6_year_71 (by decide) (fun c71 => ?_) (fun c71 => ?_)
    · try rw [b2i_eq] at c71
      try rw [Decidable.not_not] at c71
      refine V_bipush (-2) dX6_year_90 (by decide) ?_
      exact V_iret hX dX6_year_92 rfl (by rw [Rm_year, if_neg (by first | exact fun z => c71 z.1 | exact fun z => c82 z.2.1 | exact fun z => c87 z.2.2)]) (by rw [Sm_year, if_neg (by first | exact fun z => c71 z.1 | exact fun z => c82 z.2.1 | exact fun z => c87 z.2.2)])
    · try rw [b2i_ne] at c71
      try rw [Decidable.not_not] at c71
      refine V_ild4 dX6_year_74 ?_
      refine V_iconst 0 dX6_year_76 (by decide) ?_
      refine V_bipush 20 dX6_year_77 (by decide) ?_
      refine V_callS ls_X6_86 (mk_within _ _ _) dX6_year_79 (dep hX (by decide)) rfl (Nat.le_of_ble_eq_true rfl) ?_
      refine V_if_eq 90 dX6_year_82 (by decide) (fun c82 => ?_) (fun c82 => ?_)
      · try rw [b2i_eq] at c82
        try rw [Decidable.not_not] at c82
        refine V_bipush (-2) dX6_year_90 (by decide) ?_
        exact V_iret hX dX6_year_92 rfl (by rw [Rm_year, if_neg (by first | exact fun z => c71 z.1 | exact fun z => c82 z.2.1 | exact fun z => c87 z.2.2)]) (by rw [Sm_year, if_neg (by first | exact fun z => c71 z.1 | exact fun z => c82 z.2.1 | exact fun z => c87 z.2.2)])
      · try rw [b2i_ne] at c82
        try rw [Decidable.not_not] at c82
        refine V_ild6 dX6_year_85 ?_
        refine V_if_ne 93 dX6_year_87 (by decide) (fun c87 => ?_) (fun c87 => ?_)
        · try rw [b2i_ne] at c87
          try rw [Decidable.not_not] at c87
          refine V_ald0 dX6_year_93 ?_
          refine V_ild1 dX6_year_94 ?_
          refine V_ild2 dX6_year_95 ?_
          refine V_ild3 dX6_year_96 ?_
          refine V_iconst 2 dX6_year_97 (by decide) ?_
          refine V_ild4 dX6_year_98 ?_
          refine V_imul dX6_year_100 ?_
          refine V_callV lm_X6_106 (mk_against hj _ _ _) dX6_year_101 mW_obj rfl (dep hX (by decide)) rfl (Nat.le_of_ble_eq_true rfl) ?_
          refine V_ist7 dX6_year_104 rfl (by decide) ?_
          refine V_ild7 dX6_year_106 ?_
          refine V_if_eq 118 dX6_year_108 (by decide) (fun c108 => ?_) (fun c108 => ?_)
          · obtain ⟨e, he, ee⟩ := n20 c82
            subst ee
            obtain ⟨a, e2, ea, ee2, hae⟩ := ag_0 hN h60 c108
            subst ea
            have hee : 2 * e = e2 := by
              rw [show (2 : Int32) = nI 2 by decide, pk_mul, nI_eq (by omega) (by omega)] at ee2
              exact ee2
            have hca : (nI a).toNatClampNeg = a := nI_clamp (by omega)
            have hce : (nI e).toNatClampNeg = e := nI_clamp (by omega)
            refine V_ald0 dX6_year_118 ?_
            refine V_get lf_X6_90 dX6_year_119 mW_obj rfl ?_
            refine V_if_ne 128 dX6_year_122 (by decide) (fun c122 => ?_) (fun c122 => ?_)
            · refine V_bipush 60 dX6_year_128 (by decide) ?_
              refine V_ild1 dX6_year_130 ?_
              refine V_imul dX6_year_131 ?_
              refine V_ild3 dX6_year_132 ?_
              refine V_iadd dX6_year_133 ?_
              refine V_top (y := nI (i6 j a)) (s60 j a) ?_
              refine V_ist8 dX6_year_134 rfl (by decide) ?_
              refine V_iconst 0 dX6_year_136 (by decide) ?_
              refine V_ist9 dX6_year_137 rfl (by decide) ?_
              have zz := yr_a (l := l) (w := w) hP h4 hM h6 hj (show a + 2 * e ≤ 60 by omega) hw hz hy hX (by rw [Rm_year, if_pos ⟨c71, c82, c87⟩, if_pos c108, if_neg c122, hca, hce]) (by rw [Sm_year, if_pos ⟨c71, c82, c87⟩, if_pos c108, if_neg c122, hca, hce])
              refine V_eq ?_ rfl rfl zz
              rw [c108]
              try rfl
            · refine V_bipush (-3) dX6_year_125 (by decide) ?_
              exact V_iret hX dX6_year_127 rfl (by rw [Rm_year, if_pos ⟨c71, c82, c87⟩, if_pos c108, if_pos c122]) (by rw [Sm_year, if_pos ⟨c71, c82, c87⟩, if_pos c108, if_pos c122])
          · refine V_ald0 dX6_year_111 ?_
            refine V_ild7 dX6_year_112 ?_
            refine V_callV lm_X6_110 (mk_fails _) dX6_year_114 mW_obj rfl (dep hX (by decide)) rfl (Nat.le_of_ble_eq_true rfl) ?_
            exact V_iret hX dX6_year_117 rfl (by rw [Rm_year, if_pos ⟨c71, c82, c87⟩, if_neg c108]) (by rw [Sm_year, if_pos ⟨c71, c82, c87⟩, if_neg c108])
        · try rw [b2i_eq] at c87
          try rw [Decidable.not_not] at c87
          refine V_bipush (-2) dX6_year_90 (by decide) ?_
          exact V_iret hX dX6_year_92 rfl (by rw [Rm_year, if_neg (by first | exact fun z => c71 z.1 | exact fun z => c82 z.2.1 | exact fun z => c87 z.2.2)]) (by rw [Sm_year, if_neg (by first | exact fun z => c71 z.1 | exact fun z => c82 z.2.1 | exact fun z => c87 z.2.2)])
  refine V_ild1 dX6_year_5 ?_
  refine V_callS ls_X6_99 (mk_isSheet _) dX6_year_6 (dep hX (by decide)) rfl (Nat.le_of_ble_eq_true rfl) ?_
  refine V_if_ne 14 dX6_year_9 (by decide) (fun c9 => ?_) (fun c9 => ?_)
  · try rw [b2i_ne] at c9
    try rw [Decidable.not_not] at c9
    refine V_ild5 dX6_year_14 ?_
    refine V_iconst 0 dX6_year_16 (by decide) ?_
    refine V_iconst 3 dX6_year_17 (by decide) ?_
    refine V_callS ls_X6_86 (mk_within _ _ _) dX6_year_18 (dep hX (by decide)) rfl (Nat.le_of_ble_eq_true rfl) ?_
    refine V_if_ne 60 dX6_year_21 (by decide) (fun c21 => ?_) (fun c21 => ?_)
    · try rw [b2i_ne] at c21
      try rw [Decidable.not_not] at c21
      have hye : (1 : Int32) = b2i (yeM w) := (b2i_t (Or.inl c21)).symm
      refine V_iconst 1 dX6_year_60 (by decide) ?_
      refine V_goto 65 dX6_year_61 (by decide) ?_
      refine V_top (y := b2i (yeM w)) hye ?_
      exact kk
    · try rw [b2i_eq] at c21
      try rw [Decidable.not_not] at c21
      refine V_ild5 dX6_year_24 ?_
      refine V_bipush 10 dX6_year_26 (by decide) ?_
      refine V_bipush 13 dX6_year_28 (by decide) ?_
      refine V_callS ls_X6_86 (mk_within _ _ _) dX6_year_30 (dep hX (by decide)) rfl (Nat.le_of_ble_eq_true rfl) ?_
      refine V_if_ne 60 dX6_year_33 (by decide) (fun c33 => ?_) (fun c33 => ?_)
      · try rw [b2i_ne] at c33
        try rw [Decidable.not_not] at c33
        have hye : (1 : Int32) = b2i (yeM w) := (b2i_t (Or.inr (Or.inl c33))).symm
        refine V_iconst 1 dX6_year_60 (by decide) ?_
        refine V_goto 65 dX6_year_61 (by decide) ?_
        refine V_top (y := b2i (yeM w)) hye ?_
        exact kk
      · try rw [b2i_eq] at c33
        try rw [Decidable.not_not] at c33
        refine V_ild5 dX6_year_36 ?_
        refine V_bipush 20 dX6_year_38 (by decide) ?_
        refine V_bipush 23 dX6_year_40 (by decide) ?_
        refine V_callS ls_X6_86 (mk_within _ _ _) dX6_year_42 (dep hX (by decide)) rfl (Nat.le_of_ble_eq_true rfl) ?_
        refine V_if_ne 60 dX6_year_45 (by decide) (fun c45 => ?_) (fun c45 => ?_)
        · try rw [b2i_ne] at c45
          try rw [Decidable.not_not] at c45
          have hye : (1 : Int32) = b2i (yeM w) := (b2i_t (Or.inr (Or.inr (Or.inl c45)))).symm
          refine V_iconst 1 dX6_year_60 (by decide) ?_
          refine V_goto 65 dX6_year_61 (by decide) ?_
          refine V_top (y := b2i (yeM w)) hye ?_
          exact kk
        · try rw [b2i_eq] at c45
          try rw [Decidable.not_not] at c45
          refine V_ild5 dX6_year_48 ?_
          refine V_bipush 30 dX6_year_50 (by decide) ?_
          refine V_bipush 35 dX6_year_52 (by decide) ?_
          refine V_callS ls_X6_86 (mk_within _ _ _) dX6_year_54 (dep hX (by decide)) rfl (Nat.le_of_ble_eq_true rfl) ?_
          refine V_if_eq 64 dX6_year_57 (by decide) (fun c57 => ?_) (fun c57 => ?_)
          · try rw [b2i_eq] at c57
            try rw [Decidable.not_not] at c57
            have hye : (0 : Int32) = b2i (yeM w) := (b2i_f (fun z => z.elim c21 (fun z => z.elim c33 (fun z => z.elim c45 c57)))).symm
            refine V_iconst 0 dX6_year_64 (by decide) ?_
            refine V_top (y := b2i (yeM w)) hye ?_
            exact kk
          · try rw [b2i_ne] at c57
            try rw [Decidable.not_not] at c57
            have hye : (1 : Int32) = b2i (yeM w) := (b2i_t (Or.inr (Or.inr (Or.inr c57)))).symm
            refine V_iconst 1 dX6_year_60 (by decide) ?_
            refine V_goto 65 dX6_year_61 (by decide) ?_
            refine V_top (y := b2i (yeM w)) hye ?_
            exact kk
  · exact absurd (b2i_eq.mp c9) (fun z => z ⟨nI_pos (by omega), nI_nlt (b := j) (a := 3) (by omega) (by decide)⟩)
end
