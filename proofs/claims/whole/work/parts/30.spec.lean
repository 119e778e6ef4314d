/-! what a market's methods answer, in the machine's own numbers; μ k i: field k, place i of a Market -/
abbrev bitI (s n : Int32) : Prop := (s >>> (n &&& 31)) &&& 1 = 1

def oneI (k : Nat) : Int32 := (1 : Int32) <<< (nI k &&& 31)
def freshI (k t w d : Int32) : Int32 := if t ≤ d then (if 0 ≤ w - (if k = 1 then (d - t) / 3 else d - t) then (if k = 2 then (w - (if k = 1 then (d - t) / 3 else d - t)) / 2 else w - (if k = 1 then (d - t) / 3 else d - t)) else 0) else 0
def frC (μ : Sm) (m : Nat) (d : Int32) : Int32 := freshI (μ 3 m) (μ 5 m) (μ 6 m) d
def prC (μ : Sm) (m : Nat) : Int32 := μ 7 0 * frC μ m (μ 8 0)
theorem nI_inc (k : Nat) : nI k + Int32.ofInt 1 = nI (k + 1) := (nI_succ k).symm
theorem ge_no {x : Int32} {M k : Nat} (h : x = nI M) (hk : k < M) (hM : M < 2 ^ 31) : ¬ x ≤ nI k := by rw [h]; exact nI_ge hk hM
theorem ge_yes {x : Int32} {M : Nat} (h : x = nI M) : x ≤ nI M := by rw [h]; exact Int32.le_refl _
def clC (μ : Sm) (p : Int32) : Nat → Int32
  | 0 => 0
  | k + 1 => if μ 4 k = p ∧ ¬ bitI (μ 11 0) (nI k) then clC μ p k ||| oneI k else clC μ p k
def psC (μ : Sm) (s : Int32) : Nat → Int32
  | 0 => 0
  | k + 1 => if bitI s (nI k) then psC μ s k + prC μ k else psC μ s k
def jaC (μ : Sm) : Nat → Int32
  | 0 => 0
  | k + 1 => jaC μ k + μ 1 k
/-- half of all that is fresh -/
def haC (μ : Sm) (s d : Int32) : Nat → Int32
  | 0 => 0
  | k + 1 => if bitI s (nI k) then haC μ s d k + frC μ k d / 2 else haC μ s d k
/-- the freshest -/
def fmC (μ : Sm) (s d : Int32) : Nat → Int32
  | 0 => 0
  | k + 1 => if bitI s (nI k) ∧ ¬ frC μ k d ≤ fmC μ s d k then frC μ k d else fmC μ s d k
def jsC (μ : Sm) (s d : Int32) (b : Int32) (M : Nat) : Int32 := if b = 0 then haC μ s d M - fmC μ s d M / 2 + fmC μ s d M else haC μ s d M
def otC (μ : Sm) (p : Nat) : Int32 := b2i (μ 2 p = μ 8 0)
def feC (μ : Sm) (p : Nat) (s : Int32) (M : Nat) : Int32 := jsC μ s (μ 8 0) (otC μ p) M
