/-! the reference's rows changed at once -/
def umF (τ : Sm) (k : Nat) (g : Nat → Int32) : Sm := fun k' => if k' = k then g else τ k'
theorem um_umF (τ : Sm) (k : Nat) (T : Nat → Int32) (i : Nat) (v : Int32) : um (umF τ k T) k i v = umF τ k (upd T i v) := by
  funext k' i'
  unfold um umF upd
  by_cases h2 : k' = k <;> by_cases h3 : i' = i <;> simp [h2, h3]
theorem umF_self (τ : Sm) (k : Nat) : umF τ k (τ k) = τ := by
  funext k'
  unfold umF
  by_cases h2 : k' = k <;> simp [h2]
theorem um_self (τ : Sm) (k i : Nat) : um τ k i (τ k i) = τ := by
  funext k' i'
  unfold um
  by_cases h2 : k' = k <;> by_cases h3 : i' = i <;> simp [h2, h3]
theorem um_k {τ : Sm} {k k' i : Nat} {v : Int32} (h : ¬ k' = k) : um τ k i v k' = τ k' := by
  funext i'; simp [um, h]
theorem umF_k {τ : Sm} {k k' : Nat} {g : Nat → Int32} (h : ¬ k' = k) : umF τ k g k' = τ k' := by simp [umF, h]
theorem umF_e {τ : Sm} {k : Nat} {g : Nat → Int32} : umF τ k g k = g := by simp [umF]
theorem um_e {τ : Sm} {k i : Nat} {v : Int32} : um τ k i v k = upd (τ k) i v := by
  funext i'; simp [um, upd]
section WORLDM
variable {B : Nat → Nat} {tc : Tc} {τ : Sm}
theorem mW_a2F (g : Nat → Int32) : (mW B tc τ).set 1 (B 1, .inl (tc.1, 4, .inl g)) = mW B tc (umF τ 2 g) := rfl
theorem mW_a3F (g : Nat → Int32) : (mW B tc τ).set 2 (B 2, .inl (tc.1, 4, .inl g)) = mW B tc (umF τ 3 g) := rfl
theorem mW_a4F (g : Nat → Int32) : (mW B tc τ).set 3 (B 3, .inl (tc.1, 240, .inl g)) = mW B tc (umF τ 4 g) := rfl
theorem mW_a9F (g : Nat → Int32) : (mW B tc τ).set 4 (B 4, .inl (tc.1, 4, .inl g)) = mW B tc (umF τ 9 g) := rfl
theorem mW_a10F (g : Nat → Int32) : (mW B tc τ).set 5 (B 5, .inl (tc.1, 4, .inl g)) = mW B tc (umF τ 10 g) := rfl
theorem mW_a11F (g : Nat → Int32) : (mW B tc τ).set 6 (B 6, .inl (tc.2.1, 4, .inl g)) = mW B tc (umF τ 11 g) := rfl
theorem mW_a12F (g : Nat → Int32) : (mW B tc τ).set 7 (B 7, .inl (tc.1, 6, .inl g)) = mW B tc (umF τ 12 g) := rfl
theorem mW_a13F (g : Nat → Int32) : (mW B tc τ).set 8 (B 8, .inl (tc.1, 6, .inl g)) = mW B tc (umF τ 13 g) := rfl
theorem mW_a14F (g : Nat → Int32) : (mW B tc τ).set 9 (B 9, .inl (tc.1, 6, .inl g)) = mW B tc (umF τ 14 g) := rfl
theorem mW_a15F (g : Nat → Int32) : (mW B tc τ).set 10 (B 10, .inl (tc.1, 6, .inl g)) = mW B tc (umF τ 15 g) := rfl
theorem mW_a16F (g : Nat → Int32) : (mW B tc τ).set 11 (B 11, .inl (tc.2.1, 6, .inl g)) = mW B tc (umF τ 16 g) := rfl
theorem mW_a21F (g : Nat → Int32) : (mW B tc τ).set 12 (B 12, .inl (tc.1, 4, .inl g)) = mW B tc (umF τ 21 g) := rfl
theorem mW_a22F (g : Nat → Int32) : (mW B tc τ).set 13 (B 13, .inl (tc.1, 24, .inl g)) = mW B tc (umF τ 22 g) := rfl
theorem mW_a24F (g : Nat → Int32) : (mW B tc τ).set 14 (B 14, .inl (tc.1, 4, .inl g)) = mW B tc (umF τ 24 g) := rfl
theorem mW_a25F (g : Nat → Int32) : (mW B tc τ).set 15 (B 15, .inl (tc.1, 4, .inl g)) = mW B tc (umF τ 25 g) := rfl
theorem mW_a26F (g : Nat → Int32) : (mW B tc τ).set 16 (B 16, .inl (tc.2.1, 4, .inl g)) = mW B tc (umF τ 26 g) := rfl
theorem mW_a27F (g : Nat → Int32) : (mW B tc τ).set 17 (B 17, .inl (tc.1, 6, .inl g)) = mW B tc (umF τ 27 g) := rfl
theorem mW_a28F (g : Nat → Int32) : (mW B tc τ).set 18 (B 18, .inl (tc.2.1, 6, .inl g)) = mW B tc (umF τ 28 g) := rfl
theorem mW_a29F (g : Nat → Int32) : (mW B tc τ).set 19 (B 19, .inl (tc.1, 6, .inl g)) = mW B tc (umF τ 29 g) := rfl
theorem mW_a30F (g : Nat → Int32) : (mW B tc τ).set 20 (B 20, .inl (tc.1, 6, .inl g)) = mW B tc (umF τ 30 g) := rfl
theorem mW_a34F (g : Nat → Int32) : (mW B tc τ).set 21 (B 21, .inl (tc.1, 8, .inl g)) = mW B tc (umF τ 34 g) := rfl
theorem mW_a35F (g : Nat → Int32) : (mW B tc τ).set 22 (B 22, .inl (tc.1, 8, .inl g)) = mW B tc (umF τ 35 g) := rfl
theorem mW_a36F (g : Nat → Int32) : (mW B tc τ).set 23 (B 23, .inl (tc.1, 8, .inl g)) = mW B tc (umF τ 36 g) := rfl
end WORLDM
