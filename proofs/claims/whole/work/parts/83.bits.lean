/-! sets of mornings: bits -/
theorem sm31 : ∀ k, k < 32 → ((nI k &&& 31).toBitVec.smod 32) = BitVec.ofNat 32 k := by decide
theorem bit_iff {s : Int32} {k : Nat} (hk : k < 32) : bitI s (nI k) ↔ s.toBitVec.getLsbD k = true := by
  unfold bitI
  rw [← Int32.toBitVec_inj, Int32.toBitVec_and, Int32.toBitVec_shiftRight, sm31 k hk]
  have e : (BitVec.ofNat 32 k).toNat = k := by rw [BitVec.toNat_ofNat]; exact Nat.mod_eq_of_lt (by omega)
  rw [show s.toBitVec.sshiftRight' (BitVec.ofNat 32 k) = s.toBitVec.sshiftRight k by rw [BitVec.sshiftRight', e]]
  have h0 : (s.toBitVec.sshiftRight k).getLsbD 0 = s.toBitVec.getLsbD k := by
    rw [BitVec.getLsbD_sshiftRight]
    simp [hk]
  constructor
  · intro h
    have := congrArg (fun v => BitVec.getLsbD v 0) h
    try dsimp only at this
    rw [BitVec.getLsbD_and, h0] at this
    revert this
    cases s.toBitVec.getLsbD k
    · decide
    · intro _; rfl
  · intro h
    apply BitVec.eq_of_getLsbD_eq
    intro i hi
    rw [BitVec.getLsbD_and]
    by_cases hi0 : i = 0
    · subst hi0
      rw [h0, h]
      rfl
    · have z : (Int32.toBitVec 1).getLsbD i = false := by
        have : ∀ i : Fin 32, ¬ i.val = 0 → (Int32.toBitVec 1).getLsbD i.val = false := by decide
        exact this ⟨i, hi⟩ hi0
      rw [z, Bool.and_false]
theorem bit_or {a b : Int32} {k : Nat} (hk : k < 32) : bitI (a ||| b) (nI k) ↔ bitI a (nI k) ∨ bitI b (nI k) := by
  rw [bit_iff hk, bit_iff hk, bit_iff hk, Int32.toBitVec_or, BitVec.getLsbD_or, Bool.or_eq_true]
theorem bit_and {a b : Int32} {k : Nat} (hk : k < 32) : bitI (a &&& b) (nI k) ↔ bitI a (nI k) ∧ bitI b (nI k) := by
  rw [bit_iff hk, bit_iff hk, bit_iff hk, Int32.toBitVec_and, BitVec.getLsbD_and, Bool.and_eq_true]
theorem bit_not {a : Int32} {k : Nat} (hk : k < 32) : bitI (a ^^^ (-1)) (nI k) ↔ ¬ bitI a (nI k) := by
  rw [bit_iff hk, bit_iff hk, Int32.toBitVec_xor, BitVec.getLsbD_xor]
  have z : (Int32.toBitVec (-1)).getLsbD k = true := by
    have : ∀ i : Fin 32, (Int32.toBitVec (-1)).getLsbD i.val = true := by decide
    exact this ⟨k, hk⟩
  rw [z]
  cases a.toBitVec.getLsbD k <;> decide
theorem bit_0 {k : Nat} (hk : k < 32) : ¬ bitI 0 (nI k) := by
  have : ∀ i : Fin 32, ¬ bitI 0 (nI i.val) := by decide
  exact this ⟨k, hk⟩
theorem bit_one {k m : Nat} (hk : k < 6) (hm : m < 6) : bitI (oneI k) (nI m) ↔ m = k := by
  have : ∀ i : Fin 6, ∀ j : Fin 6, bitI (oneI i.val) (nI j.val) ↔ j.val = i.val := by decide
  exact this ⟨k, hk⟩ ⟨m, hm⟩
theorem ext_bits {a b : Int32} (h : ∀ k, k < 32 → (bitI a (nI k) ↔ bitI b (nI k))) : a = b := by
  rw [← Int32.toBitVec_inj]
  apply BitVec.eq_of_getLsbD_eq
  intro i hi
  have := h i hi
  rw [bit_iff hi, bit_iff hi] at this
  cases h1 : a.toBitVec.getLsbD i <;> cases h2 : b.toBitVec.getLsbD i
  · rfl
  · rw [h1, h2] at this; exact absurd (this.mpr rfl) (by decide)
  · rw [h1, h2] at this; exact absurd (this.mp rfl) (by decide)
  · rfl
/-- a set of small numbers -/
theorem bit_nI {x k : Nat} (hx : x < 2 ^ 31) (hk : k < 32) : bitI (nI x) (nI k) ↔ x.testBit k = true := by
  rw [bit_iff hk]
  show (BitVec.ofNat 32 x).getLsbD k = true ↔ _
  rw [BitVec.getLsbD_ofNat]
  simp [hk]
theorem bit_hi {x k : Nat} (hx : x < 64) (h6 : 6 ≤ k) (hk : k < 32) : ¬ bitI (nI x) (nI k) := by
  rw [bit_nI (by omega) hk]
  rw [Nat.testBit_lt_two_pow (Nat.lt_of_lt_of_le hx (show 64 ≤ 2 ^ k from Nat.le_trans (by decide) (Nat.pow_le_pow_right (by decide) h6)))]
  decide
theorem sub_iff {x : Nat} (hx : x < 64) (s : Int32) : nI x &&& (s ^^^ (-1)) = 0 ↔ ∀ m, m < 6 → bitI (nI x) (nI m) → bitI s (nI m) := by
  constructor
  · intro h m hm hb
    refine Decidable.byContradiction (fun hn => ?_)
    have : bitI (nI x &&& (s ^^^ (-1))) (nI m) := (bit_and (by omega)).mpr ⟨hb, (bit_not (by omega)).mpr hn⟩
    rw [h] at this
    exact bit_0 (by omega) this
  · intro h
    apply ext_bits
    intro k hk
    constructor
    · intro hb
      obtain ⟨h1, h2⟩ := (bit_and hk).mp hb
      by_cases h6 : k < 6
      · exact absurd (h k h6 h1) ((bit_not hk).mp h2)
      · exact absurd h1 (bit_hi hx (by omega) hk)
    · intro hb
      exact absurd hb (bit_0 hk)
theorem or_0 (a : Int32) : a ||| 0 = a := Int32.or_zero
theorem or_as (a b c : Int32) : a ||| b ||| c = a ||| (b ||| c) := Int32.or_assoc a b c
theorem or_cm (a b : Int32) : a ||| b = b ||| a := Int32.or_comm a b
theorem nI_or (x y : Nat) : nI x ||| nI y = nI (x ||| y) := by
  rw [← Int32.toBitVec_inj, Int32.toBitVec_or]
  show BitVec.ofNat 32 x ||| BitVec.ofNat 32 y = BitVec.ofNat 32 (x ||| y)
  apply BitVec.eq_of_getLsbD_eq
  intro i hi
  rw [BitVec.getLsbD_or, BitVec.getLsbD_ofNat, BitVec.getLsbD_ofNat, BitVec.getLsbD_ofNat, Nat.testBit_or]
  simp [hi]
theorem one_nI {k : Nat} (hk : k < 6) : oneI k = nI (2 ^ k) := by
  have : ∀ i : Fin 6, oneI i.val = nI (2 ^ i.val) := by decide
  exact this ⟨k, hk⟩
theorem bc_sz : ∀ x : Nat, x < 64 → bcI (nI x) = szM (nI x) := by
  have : ∀ i : Fin 64, bcI (nI i.val) = szM (nI i.val) := by decide +kernel
  exact fun x hx => this ⟨x, hx⟩
