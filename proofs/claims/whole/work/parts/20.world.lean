/-! THE WORLDS: cW A tc σ, the 34 cells of a MornMarket (σ object field index), mW B tc τ, the cells of the reference (τ field index) -/
abbrev St : Type := Nat → Nat → Nat → Int32
abbrev Sm : Type := Nat → Nat → Int32
def up (σ : St) (o k i : Nat) (v : Int32) : St := fun o' k' i' => if o' = o then (if k' = k then (if i' = i then v else σ o' k' i') else σ o' k' i') else σ o' k' i'
def um (τ : Sm) (k i : Nat) (v : Int32) : Sm := fun k' i' => if k' = k then (if i' = i then v else τ k' i') else τ k' i'
def mb (o : Nat) : Nat := 8 * o - 30
def sb (j : Nat) : Nat := 2 + 2 * j
theorem up_eq {σ : St} {o k i : Nat} {v : Int32} : up σ o k i v o k i = v := by simp [up]
theorem up_ne {σ : St} {o k i o' k' i' : Nat} {v : Int32} (h : ¬ (o' = o ∧ k' = k ∧ i' = i)) : up σ o k i v o' k' i' = σ o' k' i' := by
  unfold up
  by_cases h1 : o' = o <;> by_cases h2 : k' = k <;> by_cases h3 : i' = i <;> simp [h1, h2, h3] <;> exact absurd ⟨h1, h2, h3⟩ h
theorem um_eq {τ : Sm} {k i : Nat} {v : Int32} : um τ k i v k i = v := by simp [um]
theorem um_ne {τ : Sm} {k i k' i' : Nat} {v : Int32} (h : ¬ (k' = k ∧ i' = i)) : um τ k i v k' i' = τ k' i' := by
  unfold um
  by_cases h2 : k' = k <;> by_cases h3 : i' = i <;> simp [h2, h3] <;> exact absurd ⟨h2, h3⟩ h
def cW (A : Nat → Nat) (tc : Tc) (σ : St) : va_W := [(A 0, .inr (5, [.ref (A 1), .ref (A 10), .ref (A 18), .ref (A 26), .ref (A 28), .ref (A 30), .int (σ 0 6 0), .int (σ 0 7 0)])),
  (A 1, .inl (tc.2.2, 4, .inr (.inr (.inr (.inr (fun k => some (A (2 + 2 * k)))))))),
  (A 2, .inr (3, [.ref (A 3), .int (σ 1 1 0), .int (σ 1 2 0)])),
  (A 3, .inl (tc.1, 60, .inl (σ 1 0))),
  (A 4, .inr (3, [.ref (A 5), .int (σ 2 1 0), .int (σ 2 2 0)])),
  (A 5, .inl (tc.1, 60, .inl (σ 2 0))),
  (A 6, .inr (3, [.ref (A 7), .int (σ 3 1 0), .int (σ 3 2 0)])),
  (A 7, .inl (tc.1, 60, .inl (σ 3 0))),
  (A 8, .inr (3, [.ref (A 9), .int (σ 4 1 0), .int (σ 4 2 0)])),
  (A 9, .inl (tc.1, 60, .inl (σ 4 0))),
  (A 10, .inr (1, [.ref (A 11), .ref (A 12), .ref (A 13), .ref (A 14), .ref (A 15), .ref (A 16), .ref (A 17), .int (σ 5 7 0), .int (σ 5 8 0), .int (σ 5 9 0), .int (σ 5 10 0), .int (σ 5 11 0)])),
  (A 11, .inl (tc.1, 4, .inl (σ 5 0))),
  (A 12, .inl (tc.1, 4, .inl (σ 5 1))),
  (A 13, .inl (tc.1, 4, .inl (σ 5 2))),
  (A 14, .inl (tc.1, 6, .inl (σ 5 3))),
  (A 15, .inl (tc.1, 6, .inl (σ 5 4))),
  (A 16, .inl (tc.1, 6, .inl (σ 5 5))),
  (A 17, .inl (tc.1, 6, .inl (σ 5 6))),
  (A 18, .inr (1, [.ref (A 19), .ref (A 20), .ref (A 21), .ref (A 22), .ref (A 23), .ref (A 24), .ref (A 25), .int (σ 6 7 0), .int (σ 6 8 0), .int (σ 6 9 0), .int (σ 6 10 0), .int (σ 6 11 0)])),
  (A 19, .inl (tc.1, 4, .inl (σ 6 0))),
  (A 20, .inl (tc.1, 4, .inl (σ 6 1))),
  (A 21, .inl (tc.1, 4, .inl (σ 6 2))),
  (A 22, .inl (tc.1, 6, .inl (σ 6 3))),
  (A 23, .inl (tc.1, 6, .inl (σ 6 4))),
  (A 24, .inl (tc.1, 6, .inl (σ 6 5))),
  (A 25, .inl (tc.1, 6, .inl (σ 6 6))),
  (A 26, .inr (4, [.ref (A 27), .int (σ 7 1 0), .int (σ 7 2 0), .int (σ 7 3 0)])),
  (A 27, .inl (tc.1, 60, .inl (σ 7 0))),
  (A 28, .inr (0, [.ref (A 29), .int (σ 8 1 0), .int (σ 8 2 0)])),
  (A 29, .inl (tc.1, 192, .inl (σ 8 0))),
  (A 30, .inr (2, [.ref (A 31), .ref (A 32), .ref (A 33), .int (σ 9 3 0)])),
  (A 31, .inl (tc.1, 8, .inl (σ 9 0))),
  (A 32, .inl (tc.1, 8, .inl (σ 9 1))),
  (A 33, .inl (tc.1, 8, .inl (σ 9 2)))]
def mW (B : Nat → Nat) (tc : Tc) (τ : Sm) : va_W := [(B 0, .inr (6, [.int (τ 0 0), .int (τ 1 0), .ref (B 1), .ref (B 2), .ref (B 3), .int (τ 5 0), .int (τ 6 0), .int (τ 7 0), .int (τ 8 0), .ref (B 4), .ref (B 5), .ref (B 6), .ref (B 7), .ref (B 8), .ref (B 9), .ref (B 10), .ref (B 11), .int (τ 17 0), .int (τ 18 0), .int (τ 19 0), .int (τ 20 0), .ref (B 12), .ref (B 13), .int (τ 23 0), .ref (B 14), .ref (B 15), .ref (B 16), .ref (B 17), .ref (B 18), .ref (B 19), .ref (B 20), .int (τ 31 0), .int (τ 32 0), .int (τ 33 0), .ref (B 21), .ref (B 22), .ref (B 23)])),
  (B 1, .inl (tc.1, 4, .inl (τ 2))),
  (B 2, .inl (tc.1, 4, .inl (τ 3))),
  (B 3, .inl (tc.1, 240, .inl (τ 4))),
  (B 4, .inl (tc.1, 4, .inl (τ 9))),
  (B 5, .inl (tc.1, 4, .inl (τ 10))),
  (B 6, .inl (tc.2.1, 4, .inl (τ 11))),
  (B 7, .inl (tc.1, 6, .inl (τ 12))),
  (B 8, .inl (tc.1, 6, .inl (τ 13))),
  (B 9, .inl (tc.1, 6, .inl (τ 14))),
  (B 10, .inl (tc.1, 6, .inl (τ 15))),
  (B 11, .inl (tc.2.1, 6, .inl (τ 16))),
  (B 12, .inl (tc.1, 4, .inl (τ 21))),
  (B 13, .inl (tc.1, 24, .inl (τ 22))),
  (B 14, .inl (tc.1, 4, .inl (τ 24))),
  (B 15, .inl (tc.1, 4, .inl (τ 25))),
  (B 16, .inl (tc.2.1, 4, .inl (τ 26))),
  (B 17, .inl (tc.1, 6, .inl (τ 27))),
  (B 18, .inl (tc.2.1, 6, .inl (τ 28))),
  (B 19, .inl (tc.1, 6, .inl (τ 29))),
  (B 20, .inl (tc.1, 6, .inl (τ 30))),
  (B 21, .inl (tc.1, 8, .inl (τ 34))),
  (B 22, .inl (tc.1, 8, .inl (τ 35))),
  (B 23, .inl (tc.1, 8, .inl (τ 36)))]
section WORLD
variable {A B : Nat → Nat} {tc : Tc} {σ : St} {τ : Sm} {o j : Nat}
theorem cW_main : (cW A tc σ)[0]? = some (A 0, .inr (5, [.ref (A 1), .ref (A 10), .ref (A 18), .ref (A 26), .ref (A 28), .ref (A 30), .int (σ 0 6 0), .int (σ 0 7 0)])) := rfl
theorem cW_mainp6 (v : Int32) : (cW A tc σ).set (0) (A 0, .inr (5, [.ref (A 1), .ref (A 10), .ref (A 18), .ref (A 26), .ref (A 28), .ref (A 30), .int (σ 0 6 0), .int (σ 0 7 0)].set 6 (.int v))) = cW A tc (up σ 0 6 0 v) := rfl
theorem cW_mainp7 (v : Int32) : (cW A tc σ).set (0) (A 0, .inr (5, [.ref (A 1), .ref (A 10), .ref (A 18), .ref (A 26), .ref (A 28), .ref (A 30), .int (σ 0 6 0), .int (σ 0 7 0)].set 7 (.int v))) = cW A tc (up σ 0 7 0 v) := rfl
theorem cW_sheets : (cW A tc σ)[1]? = some (A 1, .inl (tc.2.2, 4, .inr (.inr (.inr (.inr (fun k => some (A (2 + 2 * k)))))))) := rfl
theorem cW_sh (hj : j < 4) : (cW A tc σ)[sb j]? = some (A (sb j), .inr (3, [.ref (A (sb j + 1)), .int (σ (1 + j) 1 0), .int (σ (1 + j) 2 0)])) := by
  rcases (show j = 0 ∨ j = 1 ∨ j = 2 ∨ j = 3 by omega) with rfl | rfl | rfl | rfl <;> rfl
theorem cW_shp1 (hj : j < 4) (v : Int32) : (cW A tc σ).set (sb j) (A (sb j), .inr (3, [.ref (A (sb j + 1)), .int (σ (1 + j) 1 0), .int (σ (1 + j) 2 0)].set 1 (.int v))) = cW A tc (up σ (1 + j) 1 0 v) := by
  rcases (show j = 0 ∨ j = 1 ∨ j = 2 ∨ j = 3 by omega) with rfl | rfl | rfl | rfl <;> rfl
theorem cW_shp2 (hj : j < 4) (v : Int32) : (cW A tc σ).set (sb j) (A (sb j), .inr (3, [.ref (A (sb j + 1)), .int (σ (1 + j) 1 0), .int (σ (1 + j) 2 0)].set 2 (.int v))) = cW A tc (up σ (1 + j) 2 0 v) := by
  rcases (show j = 0 ∨ j = 1 ∨ j = 2 ∨ j = 3 by omega) with rfl | rfl | rfl | rfl <;> rfl
theorem cW_sha (hj : j < 4) : (cW A tc σ)[sb j + 1]? = some (A (sb j + 1), .inl (tc.1, 60, .inl (σ (1 + j) 0))) := by
  rcases (show j = 0 ∨ j = 1 ∨ j = 2 ∨ j = 3 by omega) with rfl | rfl | rfl | rfl <;> rfl
theorem cW_shas (hj : j < 4) (i : Nat) (v : Int32) : (cW A tc σ).set (sb j + 1) (A (sb j + 1), .inl (tc.1, 60, .inl (upd (σ (1 + j) 0) i v))) = cW A tc (up σ (1 + j) 0 i v) := by
  rcases (show j = 0 ∨ j = 1 ∨ j = 2 ∨ j = 3 by omega) with rfl | rfl | rfl | rfl <;> rfl
theorem cW_mkt (ho : o = 5 ∨ o = 6) : (cW A tc σ)[mb o]? = some (A (mb o), .inr (1, [.ref (A (mb o + 1)), .ref (A (mb o + 2)), .ref (A (mb o + 3)), .ref (A (mb o + 4)), .ref (A (mb o + 5)), .ref (A (mb o + 6)), .ref (A (mb o + 7)), .int (σ o 7 0), .int (σ o 8 0), .int (σ o 9 0), .int (σ o 10 0), .int (σ o 11 0)])) := by rcases ho with rfl | rfl <;> rfl
theorem cW_mktp7 (ho : o = 5 ∨ o = 6) (v : Int32) : (cW A tc σ).set (mb o) (A (mb o), .inr (1, [.ref (A (mb o + 1)), .ref (A (mb o + 2)), .ref (A (mb o + 3)), .ref (A (mb o + 4)), .ref (A (mb o + 5)), .ref (A (mb o + 6)), .ref (A (mb o + 7)), .int (σ o 7 0), .int (σ o 8 0), .int (σ o 9 0), .int (σ o 10 0), .int (σ o 11 0)].set 7 (.int v))) = cW A tc (up σ o 7 0 v) := by rcases ho with rfl | rfl <;> rfl
theorem cW_mktp8 (ho : o = 5 ∨ o = 6) (v : Int32) : (cW A tc σ).set (mb o) (A (mb o), .inr (1, [.ref (A (mb o + 1)), .ref (A (mb o + 2)), .ref (A (mb o + 3)), .ref (A (mb o + 4)), .ref (A (mb o + 5)), .ref (A (mb o + 6)), .ref (A (mb o + 7)), .int (σ o 7 0), .int (σ o 8 0), .int (σ o 9 0), .int (σ o 10 0), .int (σ o 11 0)].set 8 (.int v))) = cW A tc (up σ o 8 0 v) := by rcases ho with rfl | rfl <;> rfl
theorem cW_mktp9 (ho : o = 5 ∨ o = 6) (v : Int32) : (cW A tc σ).set (mb o) (A (mb o), .inr (1, [.ref (A (mb o + 1)), .ref (A (mb o + 2)), .ref (A (mb o + 3)), .ref (A (mb o + 4)), .ref (A (mb o + 5)), .ref (A (mb o + 6)), .ref (A (mb o + 7)), .int (σ o 7 0), .int (σ o 8 0), .int (σ o 9 0), .int (σ o 10 0), .int (σ o 11 0)].set 9 (.int v))) = cW A tc (up σ o 9 0 v) := by rcases ho with rfl | rfl <;> rfl
theorem cW_mktp10 (ho : o = 5 ∨ o = 6) (v : Int32) : (cW A tc σ).set (mb o) (A (mb o), .inr (1, [.ref (A (mb o + 1)), .ref (A (mb o + 2)), .ref (A (mb o + 3)), .ref (A (mb o + 4)), .ref (A (mb o + 5)), .ref (A (mb o + 6)), .ref (A (mb o + 7)), .int (σ o 7 0), .int (σ o 8 0), .int (σ o 9 0), .int (σ o 10 0), .int (σ o 11 0)].set 10 (.int v))) = cW A tc (up σ o 10 0 v) := by rcases ho with rfl | rfl <;> rfl
theorem cW_mktp11 (ho : o = 5 ∨ o = 6) (v : Int32) : (cW A tc σ).set (mb o) (A (mb o), .inr (1, [.ref (A (mb o + 1)), .ref (A (mb o + 2)), .ref (A (mb o + 3)), .ref (A (mb o + 4)), .ref (A (mb o + 5)), .ref (A (mb o + 6)), .ref (A (mb o + 7)), .int (σ o 7 0), .int (σ o 8 0), .int (σ o 9 0), .int (σ o 10 0), .int (σ o 11 0)].set 11 (.int v))) = cW A tc (up σ o 11 0 v) := by rcases ho with rfl | rfl <;> rfl
theorem cW_ma0 (ho : o = 5 ∨ o = 6) : (cW A tc σ)[mb o + 1]? = some (A (mb o + 1), .inl (tc.1, 4, .inl (σ o 0))) := by rcases ho with rfl | rfl <;> rfl
theorem cW_ma0s (ho : o = 5 ∨ o = 6) (i : Nat) (v : Int32) : (cW A tc σ).set (mb o + 1) (A (mb o + 1), .inl (tc.1, 4, .inl (upd (σ o 0) i v))) = cW A tc (up σ o 0 i v) := by rcases ho with rfl | rfl <;> rfl
theorem cW_ma1 (ho : o = 5 ∨ o = 6) : (cW A tc σ)[mb o + 2]? = some (A (mb o + 2), .inl (tc.1, 4, .inl (σ o 1))) := by rcases ho with rfl | rfl <;> rfl
theorem cW_ma1s (ho : o = 5 ∨ o = 6) (i : Nat) (v : Int32) : (cW A tc σ).set (mb o + 2) (A (mb o + 2), .inl (tc.1, 4, .inl (upd (σ o 1) i v))) = cW A tc (up σ o 1 i v) := by rcases ho with rfl | rfl <;> rfl
theorem cW_ma2 (ho : o = 5 ∨ o = 6) : (cW A tc σ)[mb o + 3]? = some (A (mb o + 3), .inl (tc.1, 4, .inl (σ o 2))) := by rcases ho with rfl | rfl <;> rfl
theorem cW_ma2s (ho : o = 5 ∨ o = 6) (i : Nat) (v : Int32) : (cW A tc σ).set (mb o + 3) (A (mb o + 3), .inl (tc.1, 4, .inl (upd (σ o 2) i v))) = cW A tc (up σ o 2 i v) := by rcases ho with rfl | rfl <;> rfl
theorem cW_ma3 (ho : o = 5 ∨ o = 6) : (cW A tc σ)[mb o + 4]? = some (A (mb o + 4), .inl (tc.1, 6, .inl (σ o 3))) := by rcases ho with rfl | rfl <;> rfl
theorem cW_ma3s (ho : o = 5 ∨ o = 6) (i : Nat) (v : Int32) : (cW A tc σ).set (mb o + 4) (A (mb o + 4), .inl (tc.1, 6, .inl (upd (σ o 3) i v))) = cW A tc (up σ o 3 i v) := by rcases ho with rfl | rfl <;> rfl
theorem cW_ma4 (ho : o = 5 ∨ o = 6) : (cW A tc σ)[mb o + 5]? = some (A (mb o + 5), .inl (tc.1, 6, .inl (σ o 4))) := by rcases ho with rfl | rfl <;> rfl
theorem cW_ma4s (ho : o = 5 ∨ o = 6) (i : Nat) (v : Int32) : (cW A tc σ).set (mb o + 5) (A (mb o + 5), .inl (tc.1, 6, .inl (upd (σ o 4) i v))) = cW A tc (up σ o 4 i v) := by rcases ho with rfl | rfl <;> rfl
theorem cW_ma5 (ho : o = 5 ∨ o = 6) : (cW A tc σ)[mb o + 6]? = some (A (mb o + 6), .inl (tc.1, 6, .inl (σ o 5))) := by rcases ho with rfl | rfl <;> rfl
theorem cW_ma5s (ho : o = 5 ∨ o = 6) (i : Nat) (v : Int32) : (cW A tc σ).set (mb o + 6) (A (mb o + 6), .inl (tc.1, 6, .inl (upd (σ o 5) i v))) = cW A tc (up σ o 5 i v) := by rcases ho with rfl | rfl <;> rfl
theorem cW_ma6 (ho : o = 5 ∨ o = 6) : (cW A tc σ)[mb o + 7]? = some (A (mb o + 7), .inl (tc.1, 6, .inl (σ o 6))) := by rcases ho with rfl | rfl <;> rfl
theorem cW_ma6s (ho : o = 5 ∨ o = 6) (i : Nat) (v : Int32) : (cW A tc σ).set (mb o + 7) (A (mb o + 7), .inl (tc.1, 6, .inl (upd (σ o 6) i v))) = cW A tc (up σ o 6 i v) := by rcases ho with rfl | rfl <;> rfl
theorem cW_rd : (cW A tc σ)[26]? = some (A 26, .inr (4, [.ref (A 27), .int (σ 7 1 0), .int (σ 7 2 0), .int (σ 7 3 0)])) := rfl
theorem cW_rdp1 (v : Int32) : (cW A tc σ).set (26) (A 26, .inr (4, [.ref (A 27), .int (σ 7 1 0), .int (σ 7 2 0), .int (σ 7 3 0)].set 1 (.int v))) = cW A tc (up σ 7 1 0 v) := rfl
theorem cW_rdp2 (v : Int32) : (cW A tc σ).set (26) (A 26, .inr (4, [.ref (A 27), .int (σ 7 1 0), .int (σ 7 2 0), .int (σ 7 3 0)].set 2 (.int v))) = cW A tc (up σ 7 2 0 v) := rfl
theorem cW_rdp3 (v : Int32) : (cW A tc σ).set (26) (A 26, .inr (4, [.ref (A 27), .int (σ 7 1 0), .int (σ 7 2 0), .int (σ 7 3 0)].set 3 (.int v))) = cW A tc (up σ 7 3 0 v) := rfl
theorem cW_rda : (cW A tc σ)[27]? = some (A 27, .inl (tc.1, 60, .inl (σ 7 0))) := rfl
theorem cW_rdas (i : Nat) (v : Int32) : (cW A tc σ).set (27) (A 27, .inl (tc.1, 60, .inl (upd (σ 7 0) i v))) = cW A tc (up σ 7 0 i v) := rfl
theorem cW_ke : (cW A tc σ)[28]? = some (A 28, .inr (0, [.ref (A 29), .int (σ 8 1 0), .int (σ 8 2 0)])) := rfl
theorem cW_kep1 (v : Int32) : (cW A tc σ).set (28) (A 28, .inr (0, [.ref (A 29), .int (σ 8 1 0), .int (σ 8 2 0)].set 1 (.int v))) = cW A tc (up σ 8 1 0 v) := rfl
theorem cW_kep2 (v : Int32) : (cW A tc σ).set (28) (A 28, .inr (0, [.ref (A 29), .int (σ 8 1 0), .int (σ 8 2 0)].set 2 (.int v))) = cW A tc (up σ 8 2 0 v) := rfl
theorem cW_kea : (cW A tc σ)[29]? = some (A 29, .inl (tc.1, 192, .inl (σ 8 0))) := rfl
theorem cW_keas (i : Nat) (v : Int32) : (cW A tc σ).set (29) (A 29, .inl (tc.1, 192, .inl (upd (σ 8 0) i v))) = cW A tc (up σ 8 0 i v) := rfl
theorem cW_re : (cW A tc σ)[30]? = some (A 30, .inr (2, [.ref (A 31), .ref (A 32), .ref (A 33), .int (σ 9 3 0)])) := rfl
theorem cW_rep3 (v : Int32) : (cW A tc σ).set (30) (A 30, .inr (2, [.ref (A 31), .ref (A 32), .ref (A 33), .int (σ 9 3 0)].set 3 (.int v))) = cW A tc (up σ 9 3 0 v) := rfl
theorem cW_rea0 : (cW A tc σ)[31]? = some (A 31, .inl (tc.1, 8, .inl (σ 9 0))) := rfl
theorem cW_rea0s (i : Nat) (v : Int32) : (cW A tc σ).set (31) (A 31, .inl (tc.1, 8, .inl (upd (σ 9 0) i v))) = cW A tc (up σ 9 0 i v) := rfl
theorem cW_rea1 : (cW A tc σ)[32]? = some (A 32, .inl (tc.1, 8, .inl (σ 9 1))) := rfl
theorem cW_rea1s (i : Nat) (v : Int32) : (cW A tc σ).set (32) (A 32, .inl (tc.1, 8, .inl (upd (σ 9 1) i v))) = cW A tc (up σ 9 1 i v) := rfl
theorem cW_rea2 : (cW A tc σ)[33]? = some (A 33, .inl (tc.1, 8, .inl (σ 9 2))) := rfl
theorem cW_rea2s (i : Nat) (v : Int32) : (cW A tc σ).set (33) (A 33, .inl (tc.1, 8, .inl (upd (σ 9 2) i v))) = cW A tc (up σ 9 2 i v) := rfl
theorem mW_obj : (mW B tc τ)[0]? = some (B 0, .inr (6, [.int (τ 0 0), .int (τ 1 0), .ref (B 1), .ref (B 2), .ref (B 3), .int (τ 5 0), .int (τ 6 0), .int (τ 7 0), .int (τ 8 0), .ref (B 4), .ref (B 5), .ref (B 6), .ref (B 7), .ref (B 8), .ref (B 9), .ref (B 10), .ref (B 11), .int (τ 17 0), .int (τ 18 0), .int (τ 19 0), .int (τ 20 0), .ref (B 12), .ref (B 13), .int (τ 23 0), .ref (B 14), .ref (B 15), .ref (B 16), .ref (B 17), .ref (B 18), .ref (B 19), .ref (B 20), .int (τ 31 0), .int (τ 32 0), .int (τ 33 0), .ref (B 21), .ref (B 22), .ref (B 23)])) := rfl
theorem mW_p0 (v : Int32) : (mW B tc τ).set 0 (B 0, .inr (6, [.int (τ 0 0), .int (τ 1 0), .ref (B 1), .ref (B 2), .ref (B 3), .int (τ 5 0), .int (τ 6 0), .int (τ 7 0), .int (τ 8 0), .ref (B 4), .ref (B 5), .ref (B 6), .ref (B 7), .ref (B 8), .ref (B 9), .ref (B 10), .ref (B 11), .int (τ 17 0), .int (τ 18 0), .int (τ 19 0), .int (τ 20 0), .ref (B 12), .ref (B 13), .int (τ 23 0), .ref (B 14), .ref (B 15), .ref (B 16), .ref (B 17), .ref (B 18), .ref (B 19), .ref (B 20), .int (τ 31 0), .int (τ 32 0), .int (τ 33 0), .ref (B 21), .ref (B 22), .ref (B 23)].set 0 (.int v))) = mW B tc (um τ 0 0 v) := rfl
theorem mW_p1 (v : Int32) : (mW B tc τ).set 0 (B 0, .inr (6, [.int (τ 0 0), .int (τ 1 0), .ref (B 1), .ref (B 2), .ref (B 3), .int (τ 5 0), .int (τ 6 0), .int (τ 7 0), .int (τ 8 0), .ref (B 4), .ref (B 5), .ref (B 6), .ref (B 7), .ref (B 8), .ref (B 9), .ref (B 10), .ref (B 11), .int (τ 17 0), .int (τ 18 0), .int (τ 19 0), .int (τ 20 0), .ref (B 12), .ref (B 13), .int (τ 23 0), .ref (B 14), .ref (B 15), .ref (B 16), .ref (B 17), .ref (B 18), .ref (B 19), .ref (B 20), .int (τ 31 0), .int (τ 32 0), .int (τ 33 0), .ref (B 21), .ref (B 22), .ref (B 23)].set 1 (.int v))) = mW B tc (um τ 1 0 v) := rfl
theorem mW_a2 : (mW B tc τ)[1]? = some (B 1, .inl (tc.1, 4, .inl (τ 2))) := rfl
theorem mW_a2s (i : Nat) (v : Int32) : (mW B tc τ).set 1 (B 1, .inl (tc.1, 4, .inl (upd (τ 2) i v))) = mW B tc (um τ 2 i v) := rfl
theorem mW_a3 : (mW B tc τ)[2]? = some (B 2, .inl (tc.1, 4, .inl (τ 3))) := rfl
theorem mW_a3s (i : Nat) (v : Int32) : (mW B tc τ).set 2 (B 2, .inl (tc.1, 4, .inl (upd (τ 3) i v))) = mW B tc (um τ 3 i v) := rfl
theorem mW_a4 : (mW B tc τ)[3]? = some (B 3, .inl (tc.1, 240, .inl (τ 4))) := rfl
theorem mW_a4s (i : Nat) (v : Int32) : (mW B tc τ).set 3 (B 3, .inl (tc.1, 240, .inl (upd (τ 4) i v))) = mW B tc (um τ 4 i v) := rfl
theorem mW_p5 (v : Int32) : (mW B tc τ).set 0 (B 0, .inr (6, [.int (τ 0 0), .int (τ 1 0), .ref (B 1), .ref (B 2), .ref (B 3), .int (τ 5 0), .int (τ 6 0), .int (τ 7 0), .int (τ 8 0), .ref (B 4), .ref (B 5), .ref (B 6), .ref (B 7), .ref (B 8), .ref (B 9), .ref (B 10), .ref (B 11), .int (τ 17 0), .int (τ 18 0), .int (τ 19 0), .int (τ 20 0), .ref (B 12), .ref (B 13), .int (τ 23 0), .ref (B 14), .ref (B 15), .ref (B 16), .ref (B 17), .ref (B 18), .ref (B 19), .ref (B 20), .int (τ 31 0), .int (τ 32 0), .int (τ 33 0), .ref (B 21), .ref (B 22), .ref (B 23)].set 5 (.int v))) = mW B tc (um τ 5 0 v) := rfl
theorem mW_p6 (v : Int32) : (mW B tc τ).set 0 (B 0, .inr (6, [.int (τ 0 0), .int (τ 1 0), .ref (B 1), .ref (B 2), .ref (B 3), .int (τ 5 0), .int (τ 6 0), .int (τ 7 0), .int (τ 8 0), .ref (B 4), .ref (B 5), .ref (B 6), .ref (B 7), .ref (B 8), .ref (B 9), .ref (B 10), .ref (B 11), .int (τ 17 0), .int (τ 18 0), .int (τ 19 0), .int (τ 20 0), .ref (B 12), .ref (B 13), .int (τ 23 0), .ref (B 14), .ref (B 15), .ref (B 16), .ref (B 17), .ref (B 18), .ref (B 19), .ref (B 20), .int (τ 31 0), .int (τ 32 0), .int (τ 33 0), .ref (B 21), .ref (B 22), .ref (B 23)].set 6 (.int v))) = mW B tc (um τ 6 0 v) := rfl
theorem mW_p7 (v : Int32) : (mW B tc τ).set 0 (B 0, .inr (6, [.int (τ 0 0), .int (τ 1 0), .ref (B 1), .ref (B 2), .ref (B 3), .int (τ 5 0), .int (τ 6 0), .int (τ 7 0), .int (τ 8 0), .ref (B 4), .ref (B 5), .ref (B 6), .ref (B 7), .ref (B 8), .ref (B 9), .ref (B 10), .ref (B 11), .int (τ 17 0), .int (τ 18 0), .int (τ 19 0), .int (τ 20 0), .ref (B 12), .ref (B 13), .int (τ 23 0), .ref (B 14), .ref (B 15), .ref (B 16), .ref (B 17), .ref (B 18), .ref (B 19), .ref (B 20), .int (τ 31 0), .int (τ 32 0), .int (τ 33 0), .ref (B 21), .ref (B 22), .ref (B 23)].set 7 (.int v))) = mW B tc (um τ 7 0 v) := rfl
theorem mW_p8 (v : Int32) : (mW B tc τ).set 0 (B 0, .inr (6, [.int (τ 0 0), .int (τ 1 0), .ref (B 1), .ref (B 2), .ref (B 3), .int (τ 5 0), .int (τ 6 0), .int (τ 7 0), .int (τ 8 0), .ref (B 4), .ref (B 5), .ref (B 6), .ref (B 7), .ref (B 8), .ref (B 9), .ref (B 10), .ref (B 11), .int (τ 17 0), .int (τ 18 0), .int (τ 19 0), .int (τ 20 0), .ref (B 12), .ref (B 13), .int (τ 23 0), .ref (B 14), .ref (B 15), .ref (B 16), .ref (B 17), .ref (B 18), .ref (B 19), .ref (B 20), .int (τ 31 0), .int (τ 32 0), .int (τ 33 0), .ref (B 21), .ref (B 22), .ref (B 23)].set 8 (.int v))) = mW B tc (um τ 8 0 v) := rfl
theorem mW_a9 : (mW B tc τ)[4]? = some (B 4, .inl (tc.1, 4, .inl (τ 9))) := rfl
theorem mW_a9s (i : Nat) (v : Int32) : (mW B tc τ).set 4 (B 4, .inl (tc.1, 4, .inl (upd (τ 9) i v))) = mW B tc (um τ 9 i v) := rfl
theorem mW_a10 : (mW B tc τ)[5]? = some (B 5, .inl (tc.1, 4, .inl (τ 10))) := rfl
theorem mW_a10s (i : Nat) (v : Int32) : (mW B tc τ).set 5 (B 5, .inl (tc.1, 4, .inl (upd (τ 10) i v))) = mW B tc (um τ 10 i v) := rfl
theorem mW_a11 : (mW B tc τ)[6]? = some (B 6, .inl (tc.2.1, 4, .inl (τ 11))) := rfl
theorem mW_a11s (i : Nat) (v : Int32) : (mW B tc τ).set 6 (B 6, .inl (tc.2.1, 4, .inl (upd (τ 11) i v))) = mW B tc (um τ 11 i v) := rfl
theorem mW_a12 : (mW B tc τ)[7]? = some (B 7, .inl (tc.1, 6, .inl (τ 12))) := rfl
theorem mW_a12s (i : Nat) (v : Int32) : (mW B tc τ).set 7 (B 7, .inl (tc.1, 6, .inl (upd (τ 12) i v))) = mW B tc (um τ 12 i v) := rfl
theorem mW_a13 : (mW B tc τ)[8]? = some (B 8, .inl (tc.1, 6, .inl (τ 13))) := rfl
theorem mW_a13s (i : Nat) (v : Int32) : (mW B tc τ).set 8 (B 8, .inl (tc.1, 6, .inl (upd (τ 13) i v))) = mW B tc (um τ 13 i v) := rfl
theorem mW_a14 : (mW B tc τ)[9]? = some (B 9, .inl (tc.1, 6, .inl (τ 14))) := rfl
theorem mW_a14s (i : Nat) (v : Int32) : (mW B tc τ).set 9 (B 9, .inl (tc.1, 6, .inl (upd (τ 14) i v))) = mW B tc (um τ 14 i v) := rfl
theorem mW_a15 : (mW B tc τ)[10]? = some (B 10, .inl (tc.1, 6, .inl (τ 15))) := rfl
theorem mW_a15s (i : Nat) (v : Int32) : (mW B tc τ).set 10 (B 10, .inl (tc.1, 6, .inl (upd (τ 15) i v))) = mW B tc (um τ 15 i v) := rfl
theorem mW_a16 : (mW B tc τ)[11]? = some (B 11, .inl (tc.2.1, 6, .inl (τ 16))) := rfl
theorem mW_a16s (i : Nat) (v : Int32) : (mW B tc τ).set 11 (B 11, .inl (tc.2.1, 6, .inl (upd (τ 16) i v))) = mW B tc (um τ 16 i v) := rfl
theorem mW_p17 (v : Int32) : (mW B tc τ).set 0 (B 0, .inr (6, [.int (τ 0 0), .int (τ 1 0), .ref (B 1), .ref (B 2), .ref (B 3), .int (τ 5 0), .int (τ 6 0), .int (τ 7 0), .int (τ 8 0), .ref (B 4), .ref (B 5), .ref (B 6), .ref (B 7), .ref (B 8), .ref (B 9), .ref (B 10), .ref (B 11), .int (τ 17 0), .int (τ 18 0), .int (τ 19 0), .int (τ 20 0), .ref (B 12), .ref (B 13), .int (τ 23 0), .ref (B 14), .ref (B 15), .ref (B 16), .ref (B 17), .ref (B 18), .ref (B 19), .ref (B 20), .int (τ 31 0), .int (τ 32 0), .int (τ 33 0), .ref (B 21), .ref (B 22), .ref (B 23)].set 17 (.int v))) = mW B tc (um τ 17 0 v) := rfl
theorem mW_p18 (v : Int32) : (mW B tc τ).set 0 (B 0, .inr (6, [.int (τ 0 0), .int (τ 1 0), .ref (B 1), .ref (B 2), .ref (B 3), .int (τ 5 0), .int (τ 6 0), .int (τ 7 0), .int (τ 8 0), .ref (B 4), .ref (B 5), .ref (B 6), .ref (B 7), .ref (B 8), .ref (B 9), .ref (B 10), .ref (B 11), .int (τ 17 0), .int (τ 18 0), .int (τ 19 0), .int (τ 20 0), .ref (B 12), .ref (B 13), .int (τ 23 0), .ref (B 14), .ref (B 15), .ref (B 16), .ref (B 17), .ref (B 18), .ref (B 19), .ref (B 20), .int (τ 31 0), .int (τ 32 0), .int (τ 33 0), .ref (B 21), .ref (B 22), .ref (B 23)].set 18 (.int v))) = mW B tc (um τ 18 0 v) := rfl
theorem mW_p19 (v : Int32) : (mW B tc τ).set 0 (B 0, .inr (6, [.int (τ 0 0), .int (τ 1 0), .ref (B 1), .ref (B 2), .ref (B 3), .int (τ 5 0), .int (τ 6 0), .int (τ 7 0), .int (τ 8 0), .ref (B 4), .ref (B 5), .ref (B 6), .ref (B 7), .ref (B 8), .ref (B 9), .ref (B 10), .ref (B 11), .int (τ 17 0), .int (τ 18 0), .int (τ 19 0), .int (τ 20 0), .ref (B 12), .ref (B 13), .int (τ 23 0), .ref (B 14), .ref (B 15), .ref (B 16), .ref (B 17), .ref (B 18), .ref (B 19), .ref (B 20), .int (τ 31 0), .int (τ 32 0), .int (τ 33 0), .ref (B 21), .ref (B 22), .ref (B 23)].set 19 (.int v))) = mW B tc (um τ 19 0 v) := rfl
theorem mW_p20 (v : Int32) : (mW B tc τ).set 0 (B 0, .inr (6, [.int (τ 0 0), .int (τ 1 0), .ref (B 1), .ref (B 2), .ref (B 3), .int (τ 5 0), .int (τ 6 0), .int (τ 7 0), .int (τ 8 0), .ref (B 4), .ref (B 5), .ref (B 6), .ref (B 7), .ref (B 8), .ref (B 9), .ref (B 10), .ref (B 11), .int (τ 17 0), .int (τ 18 0), .int (τ 19 0), .int (τ 20 0), .ref (B 12), .ref (B 13), .int (τ 23 0), .ref (B 14), .ref (B 15), .ref (B 16), .ref (B 17), .ref (B 18), .ref (B 19), .ref (B 20), .int (τ 31 0), .int (τ 32 0), .int (τ 33 0), .ref (B 21), .ref (B 22), .ref (B 23)].set 20 (.int v))) = mW B tc (um τ 20 0 v) := rfl
theorem mW_a21 : (mW B tc τ)[12]? = some (B 12, .inl (tc.1, 4, .inl (τ 21))) := rfl
theorem mW_a21s (i : Nat) (v : Int32) : (mW B tc τ).set 12 (B 12, .inl (tc.1, 4, .inl (upd (τ 21) i v))) = mW B tc (um τ 21 i v) := rfl
theorem mW_a22 : (mW B tc τ)[13]? = some (B 13, .inl (tc.1, 24, .inl (τ 22))) := rfl
theorem mW_a22s (i : Nat) (v : Int32) : (mW B tc τ).set 13 (B 13, .inl (tc.1, 24, .inl (upd (τ 22) i v))) = mW B tc (um τ 22 i v) := rfl
theorem mW_p23 (v : Int32) : (mW B tc τ).set 0 (B 0, .inr (6, [.int (τ 0 0), .int (τ 1 0), .ref (B 1), .ref (B 2), .ref (B 3), .int (τ 5 0), .int (τ 6 0), .int (τ 7 0), .int (τ 8 0), .ref (B 4), .ref (B 5), .ref (B 6), .ref (B 7), .ref (B 8), .ref (B 9), .ref (B 10), .ref (B 11), .int (τ 17 0), .int (τ 18 0), .int (τ 19 0), .int (τ 20 0), .ref (B 12), .ref (B 13), .int (τ 23 0), .ref (B 14), .ref (B 15), .ref (B 16), .ref (B 17), .ref (B 18), .ref (B 19), .ref (B 20), .int (τ 31 0), .int (τ 32 0), .int (τ 33 0), .ref (B 21), .ref (B 22), .ref (B 23)].set 23 (.int v))) = mW B tc (um τ 23 0 v) := rfl
theorem mW_a24 : (mW B tc τ)[14]? = some (B 14, .inl (tc.1, 4, .inl (τ 24))) := rfl
theorem mW_a24s (i : Nat) (v : Int32) : (mW B tc τ).set 14 (B 14, .inl (tc.1, 4, .inl (upd (τ 24) i v))) = mW B tc (um τ 24 i v) := rfl
theorem mW_a25 : (mW B tc τ)[15]? = some (B 15, .inl (tc.1, 4, .inl (τ 25))) := rfl
theorem mW_a25s (i : Nat) (v : Int32) : (mW B tc τ).set 15 (B 15, .inl (tc.1, 4, .inl (upd (τ 25) i v))) = mW B tc (um τ 25 i v) := rfl
theorem mW_a26 : (mW B tc τ)[16]? = some (B 16, .inl (tc.2.1, 4, .inl (τ 26))) := rfl
theorem mW_a26s (i : Nat) (v : Int32) : (mW B tc τ).set 16 (B 16, .inl (tc.2.1, 4, .inl (upd (τ 26) i v))) = mW B tc (um τ 26 i v) := rfl
theorem mW_a27 : (mW B tc τ)[17]? = some (B 17, .inl (tc.1, 6, .inl (τ 27))) := rfl
theorem mW_a27s (i : Nat) (v : Int32) : (mW B tc τ).set 17 (B 17, .inl (tc.1, 6, .inl (upd (τ 27) i v))) = mW B tc (um τ 27 i v) := rfl
theorem mW_a28 : (mW B tc τ)[18]? = some (B 18, .inl (tc.2.1, 6, .inl (τ 28))) := rfl
theorem mW_a28s (i : Nat) (v : Int32) : (mW B tc τ).set 18 (B 18, .inl (tc.2.1, 6, .inl (upd (τ 28) i v))) = mW B tc (um τ 28 i v) := rfl
theorem mW_a29 : (mW B tc τ)[19]? = some (B 19, .inl (tc.1, 6, .inl (τ 29))) := rfl
theorem mW_a29s (i : Nat) (v : Int32) : (mW B tc τ).set 19 (B 19, .inl (tc.1, 6, .inl (upd (τ 29) i v))) = mW B tc (um τ 29 i v) := rfl
theorem mW_a30 : (mW B tc τ)[20]? = some (B 20, .inl (tc.1, 6, .inl (τ 30))) := rfl
theorem mW_a30s (i : Nat) (v : Int32) : (mW B tc τ).set 20 (B 20, .inl (tc.1, 6, .inl (upd (τ 30) i v))) = mW B tc (um τ 30 i v) := rfl
theorem mW_p31 (v : Int32) : (mW B tc τ).set 0 (B 0, .inr (6, [.int (τ 0 0), .int (τ 1 0), .ref (B 1), .ref (B 2), .ref (B 3), .int (τ 5 0), .int (τ 6 0), .int (τ 7 0), .int (τ 8 0), .ref (B 4), .ref (B 5), .ref (B 6), .ref (B 7), .ref (B 8), .ref (B 9), .ref (B 10), .ref (B 11), .int (τ 17 0), .int (τ 18 0), .int (τ 19 0), .int (τ 20 0), .ref (B 12), .ref (B 13), .int (τ 23 0), .ref (B 14), .ref (B 15), .ref (B 16), .ref (B 17), .ref (B 18), .ref (B 19), .ref (B 20), .int (τ 31 0), .int (τ 32 0), .int (τ 33 0), .ref (B 21), .ref (B 22), .ref (B 23)].set 31 (.int v))) = mW B tc (um τ 31 0 v) := rfl
theorem mW_p32 (v : Int32) : (mW B tc τ).set 0 (B 0, .inr (6, [.int (τ 0 0), .int (τ 1 0), .ref (B 1), .ref (B 2), .ref (B 3), .int (τ 5 0), .int (τ 6 0), .int (τ 7 0), .int (τ 8 0), .ref (B 4), .ref (B 5), .ref (B 6), .ref (B 7), .ref (B 8), .ref (B 9), .ref (B 10), .ref (B 11), .int (τ 17 0), .int (τ 18 0), .int (τ 19 0), .int (τ 20 0), .ref (B 12), .ref (B 13), .int (τ 23 0), .ref (B 14), .ref (B 15), .ref (B 16), .ref (B 17), .ref (B 18), .ref (B 19), .ref (B 20), .int (τ 31 0), .int (τ 32 0), .int (τ 33 0), .ref (B 21), .ref (B 22), .ref (B 23)].set 32 (.int v))) = mW B tc (um τ 32 0 v) := rfl
theorem mW_p33 (v : Int32) : (mW B tc τ).set 0 (B 0, .inr (6, [.int (τ 0 0), .int (τ 1 0), .ref (B 1), .ref (B 2), .ref (B 3), .int (τ 5 0), .int (τ 6 0), .int (τ 7 0), .int (τ 8 0), .ref (B 4), .ref (B 5), .ref (B 6), .ref (B 7), .ref (B 8), .ref (B 9), .ref (B 10), .ref (B 11), .int (τ 17 0), .int (τ 18 0), .int (τ 19 0), .int (τ 20 0), .ref (B 12), .ref (B 13), .int (τ 23 0), .ref (B 14), .ref (B 15), .ref (B 16), .ref (B 17), .ref (B 18), .ref (B 19), .ref (B 20), .int (τ 31 0), .int (τ 32 0), .int (τ 33 0), .ref (B 21), .ref (B 22), .ref (B 23)].set 33 (.int v))) = mW B tc (um τ 33 0 v) := rfl
theorem mW_a34 : (mW B tc τ)[21]? = some (B 21, .inl (tc.1, 8, .inl (τ 34))) := rfl
theorem mW_a34s (i : Nat) (v : Int32) : (mW B tc τ).set 21 (B 21, .inl (tc.1, 8, .inl (upd (τ 34) i v))) = mW B tc (um τ 34 i v) := rfl
theorem mW_a35 : (mW B tc τ)[22]? = some (B 22, .inl (tc.1, 8, .inl (τ 35))) := rfl
theorem mW_a35s (i : Nat) (v : Int32) : (mW B tc τ).set 22 (B 22, .inl (tc.1, 8, .inl (upd (τ 35) i v))) = mW B tc (um τ 35 i v) := rfl
theorem mW_a36 : (mW B tc τ)[23]? = some (B 23, .inl (tc.1, 8, .inl (τ 36))) := rfl
theorem mW_a36s (i : Nat) (v : Int32) : (mW B tc τ).set 23 (B 23, .inl (tc.1, 8, .inl (upd (τ 36) i v))) = mW B tc (um τ 36 i v) := rfl
end WORLD
