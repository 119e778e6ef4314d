/-! whole rows changed at once -/
def upF (σ : St) (o k : Nat) (g : Nat → Int32) : St := fun o' k' => if o' = o then (if k' = k then g else σ o' k') else σ o' k'
def fillN (f : Nat → Int32) (v : Int32) (n : Nat) : Nat → Int32 := fun j => if j < n then v else f j
theorem fillN_0 (f : Nat → Int32) (v : Int32) : fillN f v 0 = f := by funext j; simp [fillN]
theorem fillN_s (f : Nat → Int32) (v : Int32) (k : Nat) : upd (fillN f v k) k v = fillN f v (k + 1) := by
  funext j
  unfold upd fillN
  by_cases h : j = k
  · subst h; simp
  · by_cases h2 : j < k
    · simp [h, h2, Nat.lt_succ_of_lt h2]
    · simp [h, h2, show ¬ j < k + 1 by omega]
section WORLDF
variable {A B : Nat → Nat} {tc : Tc} {σ : St} {τ : Sm} {o j : Nat}
theorem cW_ma0F (ho : o = 5 ∨ o = 6) (g : Nat → Int32) : (cW A tc σ).set (mb o + 1) (A (mb o + 1), .inl (tc.1, 4, .inl g)) = cW A tc (upF σ o 0 g) := by rcases ho with rfl | rfl <;> rfl
theorem cW_ma1F (ho : o = 5 ∨ o = 6) (g : Nat → Int32) : (cW A tc σ).set (mb o + 2) (A (mb o + 2), .inl (tc.1, 4, .inl g)) = cW A tc (upF σ o 1 g) := by rcases ho with rfl | rfl <;> rfl
theorem cW_ma2F (ho : o = 5 ∨ o = 6) (g : Nat → Int32) : (cW A tc σ).set (mb o + 3) (A (mb o + 3), .inl (tc.1, 4, .inl g)) = cW A tc (upF σ o 2 g) := by rcases ho with rfl | rfl <;> rfl
theorem cW_ma3F (ho : o = 5 ∨ o = 6) (g : Nat → Int32) : (cW A tc σ).set (mb o + 4) (A (mb o + 4), .inl (tc.1, 6, .inl g)) = cW A tc (upF σ o 3 g) := by rcases ho with rfl | rfl <;> rfl
theorem cW_ma4F (ho : o = 5 ∨ o = 6) (g : Nat → Int32) : (cW A tc σ).set (mb o + 5) (A (mb o + 5), .inl (tc.1, 6, .inl g)) = cW A tc (upF σ o 4 g) := by rcases ho with rfl | rfl <;> rfl
theorem cW_ma5F (ho : o = 5 ∨ o = 6) (g : Nat → Int32) : (cW A tc σ).set (mb o + 6) (A (mb o + 6), .inl (tc.1, 6, .inl g)) = cW A tc (upF σ o 5 g) := by rcases ho with rfl | rfl <;> rfl
theorem cW_ma6F (ho : o = 5 ∨ o = 6) (g : Nat → Int32) : (cW A tc σ).set (mb o + 7) (A (mb o + 7), .inl (tc.1, 6, .inl g)) = cW A tc (upF σ o 6 g) := by rcases ho with rfl | rfl <;> rfl
theorem cW_shaF (hj : j < 4) (g : Nat → Int32) : (cW A tc σ).set (sb j + 1) (A (sb j + 1), .inl (tc.1, 60, .inl g)) = cW A tc (upF σ (1 + j) 0 g) := by
  rcases (show j = 0 ∨ j = 1 ∨ j = 2 ∨ j = 3 by omega) with rfl | rfl | rfl | rfl <;> rfl
theorem cW_rdaF (g : Nat → Int32) : (cW A tc σ).set 27 (A 27, .inl (tc.1, 60, .inl g)) = cW A tc (upF σ 7 0 g) := rfl
end WORLDF
