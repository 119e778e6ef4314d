/-! keeping, by both -/
theorem hs_mono {g g' : Nat → Nat} : ∀ k, (∀ m, m < k → g m ≤ g' m) → hsN g k ≤ hsN g' k ∧ mxN g k ≤ mxN g' k := by
  intro k
  induction k with
  | zero => intro _; exact ⟨Nat.le_refl _, Nat.le_refl _⟩
  | succ k ih =>
    intro h
    obtain ⟨a, b⟩ := ih (fun m hm => h m (by omega))
    have c := h k (by omega)
    unfold hsN mxN
    refine ⟨by omega, ?_⟩
    split <;> split <;> omega
theorem jo_mono {g g' : Nat → Nat} {b : Int32} {M : Nat} (h : ∀ m, m < M → g m ≤ g' m) : joN g b M ≤ joN g' b M := by
  obtain ⟨x, y⟩ := hs_mono M h
  unfold joN
  by_cases e : b = 0
  · rw [if_pos e, if_pos e]; omega
  · rw [if_neg e, if_neg e]; exact x
theorem jo_c {g g' : Nat → Nat} {b : Int32} {M : Nat} (h : ∀ m, m < M → g m = g' m) : joN g b M = joN g' b M :=
  Nat.le_antisymm (jo_mono (fun m hm => Nat.le_of_eq (h m hm))) (jo_mono (fun m hm => Nat.le_of_eq (h m hm).symm))
theorem hs_le {g : Nat → Nat} : ∀ k, (∀ m, m < k → g m ≤ 9) → hsN g k ≤ 4 * k ∧ mxN g k ≤ 9 := by
  intro k
  induction k with
  | zero => intro _; exact ⟨Nat.zero_le _, Nat.zero_le _⟩
  | succ k ih =>
    intro h
    obtain ⟨a, b⟩ := ih (fun m hm => h m (by omega))
    have c := h k (by omega)
    unfold hsN mxN
    refine ⟨by omega, ?_⟩
    split <;> omega
theorem jo_le {g : Nat → Nat} {b : Int32} {M : Nat} (h6 : M ≤ 6) (h : ∀ m, m < M → g m ≤ 9) : joN g b M ≤ 40 := by
  obtain ⟨x, y⟩ := hs_le M h
  unfold joN
  split <;> omega
def hN (τ : Sm) (day : Nat) (own : Int32) (d : Nat → Nat) (t k : Nat) : Nat := if bitI own (nI k) ∧ d k = t then fN τ day k else 0
def vN (τ : Sm) (dd M p : Nat) (own : Int32) (d : Nat → Nat) : Nat → Nat
  | 0 => 0
  | t + 1 => vN τ dd M p own d t + joN (hN τ (dd + t) own d t) (obM τ p t) M
theorem vN_c {τ : Sm} {dd M p : Nat} {own : Int32} {d d' : Nat → Nat} (h : ∀ m, m < M → bitI own (nI m) → d m = d' m) : ∀ t, vN τ dd M p own d t = vN τ dd M p own d' t := by
  intro t
  induction t with
  | zero => rfl
  | succ t ih =>
    unfold vN
    rw [ih, jo_c (g := hN τ (dd + t) own d t) (g' := hN τ (dd + t) own d' t) (fun m hm => ?_)]
    unfold hN
    by_cases g : bitI own (nI m)
    · rw [h m hm g]
    · rw [if_neg (fun z => g z.1), if_neg (fun z => g z.1)]
theorem vN_mono {τ : Sm} {dd M p N : Nat} {own : Int32} {d : Nat → Nat} {i : Nat} (e : d i = N) : ∀ t, t ≤ N → vN τ dd M p own d t ≤ vN τ dd M p own (fun m => if m = i then 0 else d m) t := by
  intro t
  induction t with
  | zero => intro _; exact Nat.le_refl _
  | succ t ih =>
    intro ht
    unfold vN
    refine Nat.add_le_add (ih (by omega)) (jo_mono (fun m _ => ?_))
    unfold hN
    by_cases g : m = i
    · subst g
      rw [if_neg (fun z => by have := z.2; omega)]
      exact Nat.zero_le _
    · show (if bitI own (nI m) ∧ d m = t then fN τ (dd + t) m else 0) ≤ (if bitI own (nI m) ∧ (if m = i then 0 else d m) = t then fN τ (dd + t) m else 0)
      rw [if_neg g]
      exact Nat.le_refl _
theorem vN_le {P M : Nat} {μ τ : Sm} (h : MR P M μ τ) {dd p : Nat} (hd : dd ≤ 99) {own : Int32} {d : Nat → Nat} : ∀ t, t ≤ 3 → vN τ dd M p own d t ≤ 40 * t := by
  intro t
  induction t with
  | zero => intro _; exact Nat.le_refl _
  | succ t ih =>
    intro ht
    have a := ih (by omega)
    have b : joN (hN τ (dd + t) own d t) (obM τ p t) M ≤ 40 := jo_le h.1.2 (fun m hm => by
      unfold hN
      split
      · exact (fr_f h hm (by omega)).2
      · exact Nat.zero_le _)
    unfold vN
    omega
/-! the reference's rows -/
theorem rs_bit {R : Nat → Int32} {own t : Int32} : ∀ k, k ≤ 6 → ∀ m, m < 6 → (bitI (rsM R own t k) (nI m) ↔ m < k ∧ bitI own (nI m) ∧ R m = t) := by
  intro k
  induction k with
  | zero => intro _ m hm; exact ⟨fun h => absurd h (bit_0 (by omega)), fun h => by omega⟩
  | succ k ih =>
    intro hk m hm
    unfold rsM
    rw [bit_or (by omega), ih (by omega) m hm]
    by_cases h0 : bitI own (nI k) ∧ R k = t
    · rw [if_pos h0, bit_one (by omega) hm]
      constructor
      · rintro (h | h)
        · exact ⟨by omega, h.2⟩
        · subst h; exact ⟨by omega, h0⟩
      · rintro ⟨h1, h2⟩
        by_cases e : m = k
        · exact Or.inr e
        · exact Or.inl ⟨by omega, h2⟩
    · rw [if_neg h0]
      constructor
      · rintro (h | h)
        · exact ⟨by omega, h.2⟩
        · exact absurd h (bit_0 (by omega))
      · rintro ⟨h1, h2⟩
        have : ¬ m = k := fun e => h0 (by rw [← e]; exact h2)
        exact Or.inl ⟨by omega, h2⟩
theorem jr_enc {P M : Nat} {μ τ : Sm} (h : MR P M μ τ) {dd p : Nat} (hdd : τ 8 0 = nI dd) (hd99 : dd ≤ 99) {own : Int32} {R : Nat → Int32} {dg : Nat → Nat} (hdg : ∀ m, dg m < 2 ^ 20) (hR : ∀ m, m < M → bitI own (nI m) → R m = nI (dg m)) : ∀ t, t ≤ 3 → jrM τ R M p own t = nI (vN τ dd M p own dg t) := by
  have h6 := h.1.2
  intro t
  induction t with
  | zero => intro _; rfl
  | succ t ih =>
    intro ht
    unfold jrM vN
    rw [ih (by omega), hdd, nI_add, (jo_g h (show dd + t < 2 ^ 20 by omega) _ _).1, nI_add]
    refine congrArg nI (congrArg (fun z => vN τ dd M p own dg t + z) (jo_c (fun k hk => ?_)))
    unfold gN hN
    refine if_c ?_ rfl rfl
    rw [rs_bit M h6 k (by omega)]
    constructor
    · rintro ⟨-, a, b⟩
      rw [hR k hk a, nI_eq (by have := hdg k; omega) (by omega)] at b
      exact ⟨a, b⟩
    · rintro ⟨a, b⟩
      exact ⟨hk, a, by rw [hR k hk a, b]⟩
theorem lf_enc {own : Int32} {N M : Nat} {d : Nat → Nat} (hd : ∀ m, d m < N + 1) : ∀ k, k ≤ M → lfN own N M (encN (N + 1) own d M) k = encN (N + 1) own d (M - k) := by
  intro k
  induction k with
  | zero => intro _; rfl
  | succ k ih =>
    intro hk
    unfold lfN
    rw [ih (by omega)]
    have e : M - k = (M - 1 - k) + 1 := by omega
    have e' : M - (k + 1) = M - 1 - k := by omega
    rw [e, e', show encN (N + 1) own d ((M - 1 - k) + 1) = (if bitI own (nI (M - 1 - k)) then encN (N + 1) own d (M - 1 - k) * (N + 1) + d (M - 1 - k) else encN (N + 1) own d (M - 1 - k)) from rfl]
    by_cases g : bitI own (nI (M - 1 - k))
    · rw [if_pos g, if_pos g, dm_div (hd _)]
    · rw [if_neg g, if_neg g]
theorem rk_enc {own : Int32} {N M : Nat} {d : Nat → Nat} {R : Nat → Int32} (hd : ∀ m, d m < N + 1) : ∀ k, k ≤ M → ∀ i, i < M → rkM own N M (encN (N + 1) own d M) R k i = if M - k ≤ i then (if bitI own (nI i) then nI (d i) else nI N) else R i := by
  intro k
  induction k with
  | zero => intro _ i hi; rw [if_neg (by omega)]; rfl
  | succ k ih =>
    intro hk i hi
    unfold rkM
    by_cases e : i = M - 1 - k
    · have e1 : M - k = i + 1 := by omega
      rw [← e, pk_us, if_pos (show M - (k + 1) ≤ i by omega), lf_enc hd k (by omega), e1]
      by_cases g : bitI own (nI i)
      · rw [if_pos g, if_pos g, show encN (N + 1) own d (i + 1) = (if bitI own (nI i) then encN (N + 1) own d i * (N + 1) + d i else encN (N + 1) own d i) from rfl, if_pos g, dm_mod (hd _)]
      · rw [if_neg g, if_neg g]
    · rw [pk_un e, ih (by omega) i hi]
      exact if_c (by omega) rfl rfl
theorem rk_all {own : Int32} {N M : Nat} {d : Nat → Nat} {R : Nat → Int32} (hd : ∀ m, d m < N + 1) {i : Nat} (hi : i < M) : rkM own N M (encN (N + 1) own d M) R M i = if bitI own (nI i) then nI (d i) else nI N := by
  rw [rk_enc hd M (Nat.le_refl _) i hi, if_pos (by omega)]
theorem fk_max {τ : Sm} {M p N : Nat} {own : Int32} {vc : Nat → Nat} {n : Nat} (hv : ∀ c, c < n → ∀ R : Nat → Int32, jrM τ (rkM own N M c R M) M p own N = nI (vc c) ∧ vc c < 2 ^ 20) : ∀ m, m < n → ∃ c0, c0 ≤ m ∧ (∃ R : Nat → Int32, ∀ i, i < M → (fkS τ M p N own (m + 1)).2.2 i = rkM own N M c0 R M i) ∧ (fkS τ M p N own (m + 1)).1 = nI (vc c0) ∧ (∀ c, c ≤ m → vc c ≤ vc c0) ∧ (∀ c, c < c0 → vc c < vc c0) := by
  have hs : ∀ m, jrM τ (rkM own N M m (fkS τ M p N own m).2.1 M) M p own N ≤ (fkS τ M p N own m).1 → fkS τ M p N own (m + 1) = ((fkS τ M p N own m).1, rkM own N M m (fkS τ M p N own m).2.1 M, (fkS τ M p N own m).2.2) := fun m z => if_pos z
  have hn : ∀ m, ¬ jrM τ (rkM own N M m (fkS τ M p N own m).2.1 M) M p own N ≤ (fkS τ M p N own m).1 → fkS τ M p N own (m + 1) = (jrM τ (rkM own N M m (fkS τ M p N own m).2.1 M) M p own N, rkM own N M m (fkS τ M p N own m).2.1 M, cpN (rkM own N M m (fkS τ M p N own m).2.1 M) (fkS τ M p N own m).2.2 M) := fun m z => if_neg z
  intro m
  induction m with
  | zero =>
    intro h0
    obtain ⟨a, b⟩ := hv 0 h0 (fkS τ M p N own 0).2.1
    have c : ¬ jrM τ (rkM own N M 0 (fkS τ M p N own 0).2.1 M) M p own N ≤ (fkS τ M p N own 0).1 := by
      rw [a]
      show ¬ nI (vc 0) ≤ -9
      exact fun z => nI_pos (show vc 0 < 2 ^ 31 by omega) (Int32.lt_of_le_of_lt z (by decide))
    rw [hn 0 c]
    exact ⟨0, Nat.le_refl _, ⟨_, fun i hi => if_pos hi⟩, a, fun c hc => by rw [show c = 0 by omega]; exact Nat.le_refl _, fun c hc => by omega⟩
  | succ m ih =>
    intro hm
    obtain ⟨c0, k0, ⟨R, hR⟩, k1, k2, k3⟩ := ih (by omega)
    obtain ⟨a, b⟩ := hv (m + 1) hm (fkS τ M p N own (m + 1)).2.1
    have b0 := (hv c0 (by omega) R).2
    by_cases c : jrM τ (rkM own N M (m + 1) (fkS τ M p N own (m + 1)).2.1 M) M p own N ≤ (fkS τ M p N own (m + 1)).1
    · rw [hs (m + 1) c]
      rw [a, k1, nI_leI (by omega) (by omega)] at c
      refine ⟨c0, by omega, ⟨R, hR⟩, k1, fun x hx => ?_, k3⟩
      by_cases e : x = m + 1
      · rw [e]; exact c
      · exact k2 x (by omega)
    · rw [hn (m + 1) c]
      rw [a, k1, nI_leI (by omega) (by omega)] at c
      refine ⟨m + 1, Nat.le_refl _, ⟨_, fun i hi => if_pos hi⟩, a, fun x hx => ?_, fun x hx => ?_⟩
      · by_cases e : x = m + 1
        · rw [e]; exact Nat.le_refl _
        · have := k2 x (by omega); omega
      · have := k2 x (by omega); omega
/-! the class's rows -/
theorem wi_hit {μ : Sm} {M p : Nat} {th : Int32} {d : Nat} {T0 : Nat → Int32} : ∀ s x, x < s → nI x &&& (th ^^^ (-1)) = 0 → wiC μ M p th d T0 s (64 * d + x) = jsC μ (nI x) (μ 8 0 + nI d) (oaC μ p d) M := by
  intro s
  induction s with
  | zero => intro x hx; omega
  | succ s ih =>
    intro x hx hs
    unfold wiC
    by_cases e : x = s
    · subst e; rw [if_pos hs, pk_us]
    · by_cases g : nI s &&& (th ^^^ (-1)) = 0
      · rw [if_pos g, pk_un (by omega)]; exact ih x (by omega) hs
      · rw [if_neg g]; exact ih x (by omega) hs
theorem wi_out {μ : Sm} {M p : Nat} {th : Int32} {d : Nat} {T0 : Nat → Int32} : ∀ s i, (i < 64 * d ∨ 64 * d + s ≤ i) → wiC μ M p th d T0 s i = T0 i := by
  intro s
  induction s with
  | zero => intro i _; rfl
  | succ s ih =>
    intro i hi
    unfold wiC
    by_cases g : nI s &&& (th ^^^ (-1)) = 0
    · rw [if_pos g, pk_un (by omega)]; exact ih i (by omega)
    · rw [if_neg g]; exact ih i (by omega)
theorem wo_hit {μ : Sm} {M p : Nat} {th : Int32} {T0 : Nat → Int32} : ∀ N d, d < N → ∀ x, x < 64 → nI x &&& (th ^^^ (-1)) = 0 → woC μ M p th T0 N (64 * d + x) = jsC μ (nI x) (μ 8 0 + nI d) (oaC μ p d) M := by
  intro N
  induction N with
  | zero => intro d hd; omega
  | succ N ih =>
    intro d hd x hx hs
    show wiC μ M p th N (woC μ M p th T0 N) 64 (64 * d + x) = _
    by_cases e : d = N
    · subst e; exact wi_hit 64 x hx hs
    · rw [wi_out 64 _ (Or.inl (by omega))]
      exact ih d (by omega) x hx hs
theorem dn_n : ∀ k, k < 6 → dnI k = nI (5 - k) := by decide
theorem bit_shl {j q : Nat} (hj : j < 18) (hq : q < 32) : bitI ((1 : Int32) <<< (nI j &&& 31)) (nI q) ↔ q = j := by
  have : ∀ a : Fin 18, ∀ b : Fin 32, bitI ((1 : Int32) <<< (nI a.val &&& 31)) (nI b.val) ↔ b.val = a.val := by decide +kernel
  exact this ⟨j, hj⟩ ⟨q, hq⟩
abbrev sB (own s : Int32) (dg : Nat → Nat) : Prop := ∀ q, q < 32 → (bitI s (nI q) ↔ ∃ m, m < 6 ∧ bitI own (nI m) ∧ q = 6 * dg m + m)
theorem sx_enc {own : Int32} {N : Nat} (hN : 1 ≤ N) (hN3 : N ≤ 3) {d : Nat → Nat} (hd : ∀ m, d m < N) : ∀ k, k ≤ 6 → (sxC (nI N) own (nI (encN N own d 6)) k).2 = nI (encN N own d (6 - k)) ∧ ∀ q, q < 32 → (bitI (sxC (nI N) own (nI (encN N own d 6)) k).1 (nI q) ↔ ∃ m, 6 - k ≤ m ∧ m < 6 ∧ bitI own (nI m) ∧ q = 6 * d m + m) := by
  intro k
  induction k with
  | zero => intro _; exact ⟨rfl, fun q hq => ⟨fun z => absurd z (bit_0 hq), fun ⟨m, h1, h2, _⟩ => by omega⟩⟩
  | succ k ih =>
    intro hk
    obtain ⟨i1, i2⟩ := ih (by omega)
    have e6 : 6 - k = (5 - k) + 1 := by omega
    have e5 : 6 - (k + 1) = 5 - k := by omega
    have hb : encN N own d (6 - k) ≤ 729 := Nat.le_trans (Nat.le_of_lt (enc_lt (6 - k) hd)) (rwN_le N own hN3 (6 - k) (by omega))
    have hdk := hd (5 - k)
    unfold sxC
    rw [dn_n k (by omega)]
    by_cases g : bitI own (nI (5 - k))
    · have ee : encN N own d (6 - k) = encN N own d (5 - k) * N + d (5 - k) := by
        rw [e6]; exact if_pos g
      rw [if_pos g, i1]
      refine ⟨?_, fun q hq => ?_⟩
      · show nI (encN N own d (6 - k)) / nI N = _
        rw [pk_div (by omega) (by omega) (by omega), ee, dm_div hdk, e5]
      · show bitI (_ ||| ((1 : Int32) <<< (((nI (encN N own d (6 - k)) - nI (encN N own d (6 - k)) / nI N * nI N) * 6 + nI (5 - k)) &&& 31))) (nI q) ↔ _
        rw [bit_or hq, i2 q hq, pk_rem (by omega) (by omega) (by omega), ee, dm_mod hdk, show (6 : Int32) = nI 6 by decide, pk_mul, nI_add, bit_shl (by omega) hq]
        constructor
        · rintro (⟨m, a1, a2, a3, a4⟩ | a)
          · exact ⟨m, by omega, a2, a3, a4⟩
          · exact ⟨5 - k, by omega, by omega, g, by omega⟩
        · rintro ⟨m, a1, a2, a3, a4⟩
          by_cases e : m = 5 - k
          · refine Or.inr ?_
            rw [e] at a4
            omega
          · exact Or.inl ⟨m, by omega, a2, a3, a4⟩
    · have ee : encN N own d (6 - k) = encN N own d (5 - k) := by
        rw [e6]; exact if_neg g
      rw [if_neg g]
      refine ⟨by rw [i1, ee, e5], fun q hq => ?_⟩
      rw [i2 q hq]
      constructor
      · rintro ⟨m, a1, a2, a3, a4⟩
        exact ⟨m, by omega, a2, a3, a4⟩
      · rintro ⟨m, a1, a2, a3, a4⟩
        have e : ¬ m = 5 - k := fun z => g (by rw [← z]; exact a3)
        exact ⟨m, by omega, a2, a3, a4⟩
theorem shr_bits (s : Int32) {d : Nat} (hd : d < 3) : ∃ x, x < 64 ∧ (s >>> ((nI d * 6) &&& 31)) &&& 63 = nI x ∧ ∀ m, m < 6 → (bitI (nI x) (nI m) ↔ bitI s (nI (6 * d + m))) := by
  have e0 : nI d * 6 = nI (6 * d) := by rw [show (6 : Int32) = nI 6 by decide, pk_mul, Nat.mul_comm]
  rw [e0]
  have hb : ((s >>> (nI (6 * d) &&& 31)) &&& 63).toBitVec = (s.toBitVec.sshiftRight (6 * d)) &&& (Int32.toBitVec 63) := by
    rw [Int32.toBitVec_and, Int32.toBitVec_shiftRight, sm31 (6 * d) (by omega)]
    have e : (BitVec.ofNat 32 (6 * d)).toNat = 6 * d := by rw [BitVec.toNat_ofNat]; exact Nat.mod_eq_of_lt (by omega)
    rw [BitVec.sshiftRight', e]
  have hx : ((s >>> (nI (6 * d) &&& 31)) &&& 63).toBitVec.toNat < 64 := by
    rw [hb, BitVec.toNat_and]
    exact Nat.lt_of_le_of_lt Nat.and_le_right (by decide)
  have hy : (s >>> (nI (6 * d) &&& 31)) &&& 63 = nI ((s >>> (nI (6 * d) &&& 31)) &&& 63).toBitVec.toNat := by
    rw [← Int32.toBitVec_inj]
    show _ = BitVec.ofNat 32 ((s >>> (nI (6 * d) &&& 31)) &&& 63).toBitVec.toNat
    rw [BitVec.ofNat_toNat, BitVec.setWidth_eq]
  refine ⟨_, hx, hy, fun m hm => ?_⟩
  rw [← hy, bit_iff (by omega), bit_iff (by omega), hb, BitVec.getLsbD_and]
  have z : (Int32.toBitVec 63).getLsbD m = true := by
    have : ∀ i : Fin 6, (Int32.toBitVec 63).getLsbD i.val = true := by decide
    exact this ⟨m, hm⟩
  rw [z, Bool.and_true, BitVec.getLsbD_sshiftRight]
  simp [show 6 * d + m < 32 by omega, show m < 32 by omega]
theorem oa_ob {P M : Nat} {μ τ : Sm} (h : MR P M μ τ) {p d : Nat} (hp : p < P) : oaC μ p d = 0 ↔ obM τ p d = 0 := by
  unfold oaC obM
  by_cases e : d = 0
  · rw [if_pos e, if_pos e, ot_eq h hp]
    by_cases g : τ 11 p = 0
    · rw [if_pos g]; exact ⟨fun _ => rfl, fun _ => g⟩
    · rw [if_neg g]; exact ⟨fun z => absurd z g, fun z => absurd z (by decide)⟩
  · rw [if_neg e, if_neg e]
theorem jx_enc {P M : Nat} {μ τ : Sm} (h : MR P M μ τ) {dd p : Nat} (hdd : τ 8 0 = nI dd) (hd99 : dd ≤ 99) (hp : p < P) {own s : Int32} {N : Nat} (hN3 : N ≤ 3) {dg : Nat → Nat} (hs : sB own s dg) {T : Nat → Int32} (hT : ∀ d, d < N → ∀ x, x < 64 → nI x &&& (own ^^^ (-1)) = 0 → T (64 * d + x) = jsC μ (nI x) (μ 8 0 + nI d) (oaC μ p d) M) : ∀ d, d ≤ N → jxC T s d = nI (vN τ dd M p own dg d) := by
  have h6 := h.1.2
  intro d
  induction d with
  | zero => intro _; rfl
  | succ d ih =>
    intro hd
    obtain ⟨x, hx, ex, hb⟩ := shr_bits s (d := d) (by omega)
    have hbit : ∀ m, m < 6 → (bitI (nI x) (nI m) ↔ bitI own (nI m) ∧ dg m = d) := by
      intro m hm
      rw [hb m hm, hs _ (by omega)]
      constructor
      · rintro ⟨m', h1, h2, h3⟩
        have e : m' = m := by omega
        subst e
        exact ⟨h2, by omega⟩
      · rintro ⟨a, b⟩
        exact ⟨m, hm, a, by rw [b]⟩
    have hsub : nI x &&& (own ^^^ (-1)) = 0 := (sub_iff hx own).mpr (fun m hm z => ((hbit m hm).mp z).1)
    unfold jxC vN
    rw [ih (by omega), ex, nI_clamp (by omega), hT d (by omega) x hx hsub, js_eq h _ _ _ (obM τ p d) (oa_ob h hp), h.2.2.2.2.1.1, hdd, nI_add, (jo_g h (show dd + d < 2 ^ 20 by omega) _ _).1, nI_add]
    refine congrArg nI (congrArg (fun z => vN τ dd M p own dg d + z) (jo_c (fun k hk => ?_)))
    unfold gN hN
    exact if_c (hbit k (by omega)) rfl rfl
theorem fb_max {T : Nat → Int32} {N : Nat} {own b0 : Int32} {w : Nat → Nat} {n : Nat} (hw : ∀ r, r < n → jxC T (sxC (nI N) own (nI r) 6).1 N = nI (w r) ∧ w r < 2 ^ 20) : ∀ m, m < n → ∃ r0, r0 ≤ m ∧ fbC T N own b0 (m + 1) = (nI (w r0), (sxC (nI N) own (nI r0) 6).1) ∧ (∀ r, r ≤ m → w r ≤ w r0) ∧ (∀ r, r < r0 → w r < w r0) := by
  have hs : ∀ m, jxC T (sxC (nI N) own (nI m) 6).1 N ≤ (fbC T N own b0 m).1 → fbC T N own b0 (m + 1) = fbC T N own b0 m := fun m z => if_pos z
  have hn : ∀ m, ¬ jxC T (sxC (nI N) own (nI m) 6).1 N ≤ (fbC T N own b0 m).1 → fbC T N own b0 (m + 1) = (jxC T (sxC (nI N) own (nI m) 6).1 N, (sxC (nI N) own (nI m) 6).1) := fun m z => if_neg z
  intro m
  induction m with
  | zero =>
    intro h0
    obtain ⟨a, b⟩ := hw 0 h0
    have c : ¬ jxC T (sxC (nI N) own (nI 0) 6).1 N ≤ (fbC T N own b0 0).1 := by
      rw [a]
      show ¬ nI (w 0) ≤ -9
      exact fun z => nI_pos (show w 0 < 2 ^ 31 by omega) (Int32.lt_of_le_of_lt z (by decide))
    rw [hn 0 c, a]
    exact ⟨0, Nat.le_refl _, rfl, fun r hr => by rw [show r = 0 by omega]; exact Nat.le_refl _, fun r hr => by omega⟩
  | succ m ih =>
    intro hm
    obtain ⟨r0, k0, k1, k2, k3⟩ := ih (by omega)
    obtain ⟨a, b⟩ := hw (m + 1) hm
    have bb := (hw r0 (by omega)).2
    by_cases c : jxC T (sxC (nI N) own (nI (m + 1)) 6).1 N ≤ (fbC T N own b0 (m + 1)).1
    · rw [hs (m + 1) c]
      rw [a, k1] at c
      have c' : w (m + 1) ≤ w r0 := (nI_leI (by omega) (by omega)).mp c
      refine ⟨r0, by omega, k1, fun x hx => ?_, k3⟩
      by_cases e : x = m + 1
      · rw [e]; exact c'
      · exact k2 x (by omega)
    · rw [hn (m + 1) c, a]
      rw [a, k1] at c
      have c' : ¬ w (m + 1) ≤ w r0 := fun z => c ((nI_leI (by omega) (by omega)).mpr z)
      refine ⟨m + 1, Nat.le_refl _, rfl, fun x hx => ?_, fun x hx => ?_⟩
      · by_cases e : x = m + 1
        · rw [e]; exact Nat.le_refl _
        · have := k2 x (by omega); omega
      · have := k2 x (by omega); omega
theorem do_enc {own s : Int32} {dg : Nat → Nat} (hs : sB own s dg) {N : Nat} (hN3 : N ≤ 3) (hdg : ∀ m, dg m < N) {k : Nat} (hk : k < 6) : doC s (nI k) = if bitI own (nI k) then nI (dg k) else -9 := by
  have hb : ∀ d, d < 3 → (bitI s (nI d * 6 + nI k) ↔ bitI own (nI k) ∧ dg k = d) := by
    intro d hd
    rw [show (6 : Int32) = nI 6 by decide, pk_mul, nI_add, hs _ (by omega)]
    constructor
    · rintro ⟨m', h1, h2, h3⟩
      have e : m' = k := by omega
      subst e
      exact ⟨h2, by omega⟩
    · rintro ⟨a, b⟩
      exact ⟨k, hk, a, by omega⟩
  have hlt := hdg k
  unfold doC
  by_cases o : bitI own (nI k)
  · rw [if_pos o]
    rcases (show dg k = 0 ∨ dg k = 1 ∨ dg k = 2 by omega) with e | e | e
    · rw [if_pos ((hb 0 (by decide)).mpr ⟨o, e⟩), e]
    · rw [if_neg (fun z => by have := ((hb 0 (by decide)).mp z).2; omega), if_pos ((hb 1 (by decide)).mpr ⟨o, e⟩), e]
    · rw [if_neg (fun z => by have := ((hb 0 (by decide)).mp z).2; omega), if_neg (fun z => by have := ((hb 1 (by decide)).mp z).2; omega), if_pos ((hb 2 (by decide)).mpr ⟨o, e⟩), e]
  · rw [if_neg o, if_neg (fun z => o ((hb 0 (by decide)).mp z).1), if_neg (fun z => o ((hb 1 (by decide)).mp z).1), if_neg (fun z => o ((hb 2 (by decide)).mp z).1)]
def wK (T : Nat → Int32) (N : Nat) (own : Int32) (r : Nat) : Nat := (jxC T (sxC (nI N) own (nI r) 6).1 N).toNatClampNeg
def vK (τ : Sm) (M p N : Nat) (own : Int32) (c : Nat) : Nat := (jrM τ (rkM own N M c (τ 29) M) M p own N).toNatClampNeg
theorem keep_eq {P M : Nat} {σ : St} {τ : Sm} (h : MR P M (σ 5) τ) {p N : Nat} (hp : p < P) (hN : 1 ≤ N) (hN3 : N ≤ 3) : (kpF σ M p N).1 = (kkM τ M p N).1 ∧ ∀ k, k < 6 → doC (kpF σ M p N).2 (nI k) = (if isP (nI M) (nI k) ∧ ¬ nI N ≤ (kkM τ M p N).2.2 k then (kkM τ M p N).2.2 k else -9) := by
  have h6 := h.1.2
  obtain ⟨dd, hd99, hdd⟩ := h.2.2.2.2.1.2
  unfold kpF kkM kpT
  rw [cl_eq h _ M (Nat.le_refl _)]
  have hob : ∀ m, m < 6 → bitI (owM τ (nI p) M) (nI m) → m < M := fun m hm z => ((ow_bit τ (nI p) M h6 m hm).mp z).1
  generalize owM τ (nI p) M = own at hob ⊢
  have hT := wo_hit (μ := σ 5) (M := M) (p := p) (th := own) (T0 := σ 8 0) N
  generalize woC (σ 5) M p own (σ 8 0) N = T at hT ⊢
  have hsx : ∀ dg : Nat → Nat, (∀ m, dg m < N) → sB own (sxC (nI N) own (nI (encN N own dg M)) 6).1 dg := by
    intro dg hdg q hq
    have e := (sx_enc hN hN3 (own := own) hdg 6 (Nat.le_refl _)).2 q hq
    rw [enc_top hob 6 h6 (Nat.le_refl _)] at e
    rw [e]
    constructor
    · rintro ⟨m, a1, a2, a3, a4⟩; exact ⟨m, a2, a3, a4⟩
    · rintro ⟨m, a2, a3, a4⟩; exact ⟨m, by omega, a2, a3, a4⟩
  have hW : ∀ dg : Nat → Nat, (∀ m, dg m < N) → jxC T (sxC (nI N) own (nI (encN N own dg M)) 6).1 N = nI (vN τ dd M p own dg N) := fun dg hdg => jx_enc h hdd hd99 hp hN3 (hsx dg hdg) hT N (Nat.le_refl _)
  have hle : ∀ dg : Nat → Nat, vN τ dd M p own dg N ≤ 120 := fun dg => by have := vN_le h (p := p) hd99 (own := own) (d := dg) N hN3; omega
  have hwe : ∀ dg : Nat → Nat, (∀ m, dg m < N) → wK T N own (encN N own dg M) = vN τ dd M p own dg N := by
    intro dg hdg
    unfold wK
    rw [hW dg hdg, nI_clamp (by have := hle dg; omega)]
  have hw : ∀ r, r < rwN N own M → jxC T (sxC (nI N) own (nI r) 6).1 N = nI (wK T N own r) ∧ wK T N own r < 2 ^ 20 := by
    intro r hr
    obtain ⟨dg, hdg, rfl⟩ := enc_surj (B := N) (by omega) M r hr
    have := hle dg
    rw [hwe dg hdg]
    exact ⟨hW dg hdg, by omega⟩
  have hV : ∀ dg : Nat → Nat, (∀ m, dg m < N + 1) → ∀ R : Nat → Int32, jrM τ (rkM own N M (encN (N + 1) own dg M) R M) M p own N = nI (vN τ dd M p own dg N) := fun dg hdg R => jr_enc h hdd hd99 (fun m => by have := hdg m; omega) (fun m hm ho => by rw [rk_all hdg hm, if_pos ho]) N hN3
  have hve : ∀ dg : Nat → Nat, (∀ m, dg m < N + 1) → vK τ M p N own (encN (N + 1) own dg M) = vN τ dd M p own dg N := by
    intro dg hdg
    unfold vK
    rw [hV dg hdg, nI_clamp (by have := hle dg; omega)]
  have hv : ∀ c, c < rcN N own M → ∀ R : Nat → Int32, jrM τ (rkM own N M c R M) M p own N = nI (vK τ M p N own c) ∧ vK τ M p N own c < 2 ^ 20 := by
    intro c hc R
    rw [rc_rw] at hc
    obtain ⟨dg, hdg, rfl⟩ := enc_surj (B := N + 1) (by omega) M c hc
    have := hle dg
    rw [hve dg hdg]
    exact ⟨hV dg hdg R, by omega⟩
  have hp1 : 0 < rwN N own M := rw_pos (by omega) M
  have hp2 : 0 < rcN N own M := by rw [rc_rw]; exact rw_pos (by omega) M
  obtain ⟨r0, a0, a1, a2, a3⟩ := fb_max (b0 := σ 8 2 0) hw (rwN N own M - 1) (by omega)
  obtain ⟨c0, b0, ⟨R, hR⟩, b1, b2, b3⟩ := fk_max hv (rcN N own M - 1) (by omega)
  rw [show rwN N own M - 1 + 1 = rwN N own M by omega] at a1
  rw [show rcN N own M - 1 + 1 = rcN N own M by omega] at hR b1
  obtain ⟨dr, hdr, er⟩ := enc_surj (B := N) (own := own) (by omega) M r0 (by omega)
  obtain ⟨dc, hdc, ec⟩ := enc_surj (B := N + 1) (own := own) (by omega) M c0 (by rw [← rc_rw]; omega)
  subst er
  subst ec
  have key := first_eq (own := own) (M := M) hN (fun d => vN τ dd M p own d N) (fun d d' q => vN_c q N) (fun d i _ _ e => vN_mono e N (Nat.le_refl _)) hdc hdr
    (fun d hd => by
      have := b2 (encN (N + 1) own d M) (by have := enc_lt (own := own) M hd; rw [← rc_rw] at this; omega)
      rw [hve d hd, hve dc hdc] at this
      exact this)
    (fun d hd hlt => by
      have := b3 _ hlt
      rw [hve d hd, hve dc hdc] at this
      exact this)
    (fun d hd => by
      have := a2 (encN N own d M) (by have := enc_lt (own := own) M hd; omega)
      rw [hwe d hd, hwe dr hdr] at this
      exact this)
    (fun d hd hlt => by
      have := a3 _ hlt
      rw [hwe d hd, hwe dr hdr] at this
      exact this)
  obtain ⟨kv, kd⟩ := key
  have kv' : vN τ dd M p own dc N = vN τ dd M p own dr N := kv
  rw [rw_top hob 6 h6 (Nat.le_refl _), a1]
  refine ⟨?_, fun k hk => ?_⟩
  · rw [b1, hve dc hdc, kv']
    show nI (wK T N own (encN N own dr M)) = _
    rw [hwe dr hdr]
  · show doC (sxC (nI N) own (nI (encN N own dr M)) 6).1 (nI k) = _
    rw [do_enc (hsx dr hdr) hN3 hdr hk]
    by_cases o : bitI own (nI k)
    · have hkM := hob k hk o
      have hlt := hdr k
      rw [if_pos o, hR k hkM, rk_all hdc hkM, if_pos o, kd k hkM o, if_pos ⟨(isP_n (by omega) (by omega)).mpr hkM, fun z => by have := (nI_leI (by omega) (by omega)).mp z; omega⟩]
    · rw [if_neg o]
      by_cases hkM : k < M
      · rw [hR k hkM, rk_all hdc hkM, if_neg o, if_neg (fun z => z.2 (Int32.le_refl _))]
      · rw [if_neg (fun z => hkM ((isP_n (by omega) (by omega)).mp z.1))]
theorem k56 {k : Int32} : k < 6 ↔ k ≤ 5 := by
  rw [Int32.lt_iff_toInt_lt, Int32.le_iff_toInt_le, show (6 : Int32).toInt = 6 by decide, show (5 : Int32).toInt = 5 by decide]
  omega
theorem rng3 {α : Type} {v a b w c : Int32} {x y : α} : (if v < a ∨ b < v ∨ w < c ∨ ¬ w < 6 then x else y) = if wiI v a b ∧ wiI w c 5 then y else x := by
  rw [← rng2]
  exact if_c (by rw [k56]) rfl rfl
theorem k_in {k : Int32} (h : wiI k (-1) 5) (hk : ¬ k = -1) : ∃ e, e < 6 ∧ k = nI e := by
  have h0 : ¬ k < 0 := by
    intro z
    refine hk (Int32.toInt_inj.mp ?_)
    have h1 := h.1
    rw [Int32.lt_iff_toInt_lt, show (-1 : Int32).toInt = -1 by decide] at h1
    rw [Int32.lt_iff_toInt_lt, show (0 : Int32).toInt = 0 by decide] at z
    rw [show (-1 : Int32).toInt = -1 by decide]
    omega
  obtain ⟨e, he, ee⟩ := wi_n (B := 5) rfl (by decide) (⟨h0, h.2⟩ : wiI k 0 5)
  exact ⟨e, by omega, ee⟩
theorem kp_o {σ : St} {M p N o : Nat} (h : ¬ o = 8) : kpS σ M p N o = σ o := by
  unfold kpS
  rw [up_o h, up_o h, upF_o h]
theorem kw_k {τ : Sm} {R F : Nat → Int32} {k : Nat} (h : ¬ k = 29 ∧ ¬ k = 30) : kw2 τ R F k = τ k := by
  unfold kw2
  rw [umF_k h.2, umF_k h.1]
theorem pr_keep (p n k : Int32) : Pair Rel yX5_keep cX5_keep 4 yX6_keep cX6_keep 5 [.int p, .int n, .int k] := pair_of fun D tc A B σ τ hR => by
  obtain ⟨P, M, C, h⟩ := hR
  have hMR := h.1
  obtain ⟨⟨h4, h6⟩, ⟨hP1, hP2⟩, ⟨hM1, hM2⟩, -⟩ := id hMR
  refine ⟨5, 4, _, _, _, _, ⟨by decide, by decide⟩, ok_keep hP1 h4 hM1 h6 p n k, mk_keep hP2 h4 hM2 h6 p n k, ?_, ?_⟩
  · unfold R_keep Rm_keep
    rw [hP1, hP2, hM2, rng3]
    by_cases hp : isP (nI P) p
    · obtain ⟨x, hx, rfl⟩ := isP_of rfl (by omega) hp
      have hcx : (nI x).toNatClampNeg = x := nI_clamp (by omega)
      rw [if_pos hp, if_pos hp, hcx]
      by_cases hv : wiI n 1 3 ∧ wiI k (-1) 5
      · rw [if_pos hv, if_pos hv]
        obtain ⟨N, hN, hN3, rfl⟩ := n13 hv.1.1 hv.1.2
        rw [nI_clamp (show N < 2 ^ 31 by omega)]
        obtain ⟨k1, k2⟩ := keep_eq hMR hx hN hN3
        by_cases e : k = -1
        · rw [if_pos e, if_pos e]; exact k1
        · obtain ⟨y, hy, rfl⟩ := k_in hv.2 e
          rw [if_neg e, if_neg e, nI_clamp (show y < 2 ^ 31 by omega)]
          exact k2 y hy
      · rw [if_neg hv, if_neg hv]
    · rw [if_neg hp, if_neg hp]
  · unfold S_keep Sm_keep
    rw [hP1, hP2, rng3]
    by_cases hp : isP (nI P) p
    · rw [if_pos hp, if_pos hp]
      by_cases hv : wiI n 1 3 ∧ wiI k (-1) 5
      · rw [if_pos hv, if_pos hv]
        refine ⟨P, M, C, RelE_of h ?_ (fun y hy => ?_) (kp_o (by decide)) (fun j hj => kp_o (by omega)) (kp_o (by decide)) (fun z hz => kw_k (by omega))⟩
        · rw [kp_o (by decide)]
          exact MR_congr hMR (fun _ _ _ => rfl) (fun k h1 h2 => by rw [kw_k (by omega)]) (fun i _ => by rw [kw_k (by decide), kw_k (by decide)]; exact ⟨rfl, rfl⟩) (fun k h1 h2 i _ => by rw [kw_k (by omega)])
        · rw [kp_o (by decide), kw_k (by decide)]
          exact h.2.1 y hy
      · rw [if_neg hv, if_neg hv]
        exact ⟨P, M, C, h⟩
    · rw [if_neg hp, if_neg hp]
      exact ⟨P, M, C, h⟩
