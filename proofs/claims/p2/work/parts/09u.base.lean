/-! ===== One world for both sides: every object has a number, its state is told by functions of that number ===== -/
abbrev Ly : Type := (Nat → Nat → Nat) × (Nat → Nat → Nat)
abbrev St : Type := (Nat → Nat → Int32) × (Nat → Nat → Int64) × (Nat → Nat → Nat → Int32) × (Nat → Nat → Nat → Int64) × (Nat → Nat → Option Nat) × (Nat → Nat → Nat × Nat)
def yP (y : Ly) : Nat → Nat → Nat := y.1
def yN (y : Ly) : Nat → Nat → Nat := y.2
def sV (σ : St) : Nat → Nat → Int32 := σ.1
def sJ (σ : St) : Nat → Nat → Int64 := σ.2.1
def sA (σ : St) : Nat → Nat → Nat → Int32 := σ.2.2.1
def sB (σ : St) : Nat → Nat → Nat → Int64 := σ.2.2.2.1
def sO (σ : St) : Nat → Nat → Option Nat := σ.2.2.2.2.1
def sX (σ : St) : Nat → Nat → Nat × Nat := σ.2.2.2.2.2
def w2 {α : Type} (f : Nat → Nat → α) (a b : Nat) (x : α) : Nat → Nat → α := fun a' b' => if a' = a ∧ b' = b then x else f a' b'
theorem w2_ne {α : Type} {f : Nat → Nat → α} {a b : Nat} {x : α} {a' b' : Nat} (h : a' = a → b' ≠ b) : w2 f a b x a' b' = f a' b' := if_neg (fun q => h q.1 q.2)
theorem w2_eq {α : Type} {f : Nat → Nat → α} {a b : Nat} {x : α} : w2 f a b x a b = x := if_pos ⟨rfl, rfl⟩
def uV (σ : St) (a b : Nat) (x : Int32) : St := (w2 σ.1 a b x, σ.2)
def uJ (σ : St) (a b : Nat) (x : Int64) : St := (σ.1, w2 σ.2.1 a b x, σ.2.2)
def uF (σ : St) (a b : Nat) (f : Nat → Int32) : St := (σ.1, σ.2.1, w2 σ.2.2.1 a b f, σ.2.2.2)
def uA (σ : St) (a b i : Nat) (x : Int32) : St := uF σ a b (upd (σ.2.2.1 a b) i x)
def uE (σ : St) (a b : Nat) (f : Nat → Int64) : St := (σ.1, σ.2.1, σ.2.2.1, w2 σ.2.2.2.1 a b f, σ.2.2.2.2)
def uB (σ : St) (a b i : Nat) (x : Int64) : St := uE σ a b (vp_updL (σ.2.2.2.1 a b) i x)
def uO (σ : St) (a b : Nat) (x : Option Nat) : St := (σ.1, σ.2.1, σ.2.2.1, σ.2.2.2.1, w2 σ.2.2.2.2.1 a b x, σ.2.2.2.2.2)
def uX (σ : St) (a b : Nat) (x : Nat × Nat) : St := (σ.1, σ.2.1, σ.2.2.1, σ.2.2.2.1, σ.2.2.2.2.1, w2 σ.2.2.2.2.2 a b x)
def kdT : List (List Nat) := [[0, 0, 5, 6, 0, 0, 0, 0, 0, 0, 0, 0, 0, 0, 0, 2, 0, 0, 2, 2, 0, 0], [0, 0, 0, 5, 5, 5, 2, 2, 2, 0], [2, 2, 2, 2, 0, 0, 2, 2, 0, 0, 5, 5, 2, 2, 0], [2, 0], [5, 5, 4, 2, 2, 0, 2, 0, 0, 0, 0, 0, 0, 0, 5, 5, 0, 0, 0], [5, 5, 5, 5, 2, 5, 2, 2, 2, 0, 0], [0, 0, 5, 5, 6, 0, 0, 0, 0, 0, 0, 2, 0, 5, 5, 0, 0, 0], [0, 0, 2, 0, 0, 0, 0, 0, 0, 0, 0, 2, 2, 2, 2, 3, 0, 2, 2], [2, 2, 2, 0, 5, 0, 7, 0], [5, 0, 0, 0, 0, 0, 2, 3, 5, 5, 5, 5, 5, 5, 5, 0, 2], [5, 5, 6, 0, 0, 0, 2], [5, 5, 5, 5, 5, 4, 2, 0, 0, 0, 2, 2, 2, 2, 0, 2, 0, 0, 2, 2], [0, 0, 0, 0, 0, 0, 0, 0, 2, 0, 0, 0, 0, 0, 2, 2, 0, 2, 2, 2, 2, 2, 0], [0, 0, 0, 2, 2, 2, 2, 2, 2, 2, 2, 2, 2, 2, 2, 2, 2, 2, 2, 2, 2, 2, 2, 2, 2, 2, 2, 2, 2, 2, 2, 2, 2, 2, 2, 0, 2, 0, 2, 2, 2, 0, 2, 0, 2, 2, 2, 2, 2, 2, 0, 2, 0, 2, 2, 2, 0, 2, 2, 2, 0, 2, 4, 0, 0, 0, 2, 2, 2, 2, 0, 2], [2, 2, 2, 2, 0, 2, 0, 0, 0, 0, 0, 0, 0, 0, 0, 0, 0, 0, 0, 0, 0, 0, 0, 0, 0, 0, 0, 0, 0, 0, 2, 2, 2, 2, 2, 2, 0, 0, 0, 2, 2, 2, 0, 0, 4, 6, 6, 0, 5, 0, 0, 0, 0, 0, 0, 2, 0, 2, 2, 2, 0, 2, 2, 2, 0, 0, 2, 2, 0, 1, 2, 2, 0, 0, 0, 0, 0, 0, 2, 0, 0, 0, 1, 0, 2, 0, 0, 2, 0, 0, 0, 0, 0, 0, 2, 0, 2, 2, 2, 2, 2, 0, 0, 0, 2, 2, 2, 2, 2, 0, 2, 2, 0, 2, 7, 7, 2, 2, 2, 2, 2, 0, 2, 0, 0, 0, 2, 2, 2, 2, 2, 9, 9, 9, 9, 9, 9, 9, 9, 9, 9, 9, 9, 9, 9, 9, 9, 9, 9, 9, 9, 9, 9, 9, 9, 9, 9, 9, 9, 9, 9, 9, 9, 9, 9, 9, 9, 9, 9, 9, 9, 9, 9, 9, 9, 9, 9, 9, 9, 9, 9, 9, 9, 9, 9, 9, 9, 9, 9, 9, 9, 9, 9, 9, 9, 9, 9, 9, 9, 9, 9, 2, 2], []]
def tyT : List (List Nat) := [[9, 9, 9, 9, 9, 9, 9, 9, 9, 9, 9, 9, 9, 9, 9, 0, 9, 9, 0, 0, 9, 9], [9, 9, 9, 9, 9, 9, 0, 0, 0, 9], [0, 0, 0, 0, 9, 9, 0, 0, 9, 9, 9, 9, 1, 0, 9], [0, 9], [9, 9, 5, 0, 0, 9, 0, 9, 9, 9, 9, 9, 9, 9, 9, 9, 9, 9, 9], [9, 9, 9, 9, 0, 9, 0, 0, 1, 9, 9], [9, 9, 9, 9, 9, 9, 9, 9, 9, 9, 9, 0, 9, 9, 9, 9, 9, 9], [9, 9, 0, 9, 9, 9, 9, 9, 9, 9, 9, 0, 0, 0, 0, 2, 9, 0, 0], [0, 0, 0, 9, 9, 9, 1, 9], [9, 9, 9, 9, 9, 9, 0, 2, 9, 9, 9, 9, 9, 9, 9, 9, 0], [9, 9, 9, 9, 9, 9, 0], [9, 9, 9, 9, 9, 4, 1, 9, 9, 9, 1, 0, 0, 0, 9, 1, 9, 9, 0, 0], [9, 9, 9, 9, 9, 9, 9, 9, 0, 9, 9, 9, 9, 9, 0, 0, 9, 0, 0, 0, 0, 3, 9], [9, 9, 9, 0, 0, 0, 0, 0, 0, 0, 0, 0, 0, 0, 0, 0, 3, 0, 0, 0, 0, 0, 0, 0, 0, 0, 0, 0, 0, 0, 1, 0, 0, 0, 0, 9, 0, 9, 0, 0, 0, 9, 0, 9, 0, 0, 0, 0, 0, 3, 9, 0, 9, 0, 0, 0, 9, 0, 0, 0, 9, 0, 7, 9, 9, 9, 0, 0, 0, 0, 9, 0], [1, 1, 0, 0, 9, 1, 9, 9, 9, 9, 9, 9, 9, 9, 9, 9, 9, 9, 9, 9, 9, 9, 9, 9, 9, 9, 9, 9, 9, 9, 0, 0, 0, 0, 0, 0, 9, 9, 9, 1, 0, 0, 9, 9, 6, 9, 9, 9, 9, 9, 9, 9, 9, 9, 9, 0, 9, 0, 0, 0, 9, 0, 0, 3, 9, 9, 0, 0, 9, 9, 0, 0, 9, 9, 9, 9, 9, 9, 0, 9, 9, 9, 9, 9, 1, 9, 9, 0, 9, 9, 9, 9, 9, 9, 1, 9, 3, 3, 0, 0, 0, 9, 9, 9, 0, 0, 0, 0, 3, 9, 3, 0, 9, 0, 1, 1, 1, 0, 3, 0, 0, 9, 1, 9, 9, 9, 0, 0, 0, 0, 0, 9, 9, 9, 9, 9, 9, 9, 9, 9, 9, 9, 9, 9, 9, 9, 9, 9, 9, 9, 9, 9, 9, 9, 9, 9, 9, 9, 9, 9, 9, 9, 9, 9, 9, 9, 9, 9, 9, 9, 9, 9, 9, 9, 9, 9, 9, 9, 9, 9, 9, 9, 9, 9, 9, 9, 9, 9, 9, 9, 9, 9, 9, 9, 9, 9, 9, 9, 9, 9, 9, 1, 1], []]
def clT : List Nat := [11, 5, 3, 3, 3, 3, 3, 8, 6, 3, 3, 0, 1, 3, 10, 3, 4, 4, 4, 4, 9, 9, 9, 9, 2, 2, 2, 2, 7, 7, 7, 7, 7, 7, 7, 7, 7, 7, 7, 7, 3, 3, 3, 3, 3, 3, 3, 3, 3, 3, 3, 3, 3, 3, 3, 3, 3, 3, 3, 3, 3, 3, 3, 3, 3, 3, 3, 3, 3, 3, 3, 3, 3, 3, 3, 3, 14, 13, 13, 13, 13, 12, 12, 12, 12, 12, 12, 12, 12, 12, 12, 12, 12, 15]
def lkT : List (List Nat) := [[7, 8, 11, 12, 14, 999, 999, 999, 999, 999, 999, 999, 999, 999, 999, 999, 999, 999, 999, 999], [2, 3, 4, 5, 999, 6, 999, 999, 999, 999, 999], [999, 999], [999, 999], [999, 999], [999, 999], [999, 999], [999, 999, 999, 999, 1, 999, 999, 999], [999, 999, 1, 7, 999, 999, 999, 999, 999, 999, 999, 999, 999, 9, 10, 999, 999, 999], [999, 999], [999, 999], [999, 999, 1, 999, 999, 999, 999, 999, 999, 999, 999, 999, 999, 999, 999, 999, 999, 999, 999, 999, 999, 999], [999, 999, 999, 13, 1, 11, 999, 999, 999, 999], [999, 999], [15, 1, 999, 999, 999, 999, 999], [999, 999], [20, 24, 999, 999, 999, 999, 999, 999, 999, 999, 999, 999, 999, 999, 12, 1, 999, 999, 999], [21, 25, 999, 999, 999, 999, 999, 999, 999, 999, 999, 999, 999, 999, 12, 1, 999, 999, 999], [22, 26, 999, 999, 999, 999, 999, 999, 999, 999, 999, 999, 999, 999, 12, 1, 999, 999, 999], [23, 27, 999, 999, 999, 999, 999, 999, 999, 999, 999, 999, 999, 999, 12, 1, 999, 999, 999], [1, 999, 999, 999, 999, 999, 999, 999, 40, 41, 42, 43, 44, 45, 46, 999, 999], [1, 999, 999, 999, 999, 999, 999, 999, 47, 48, 49, 50, 51, 52, 53, 999, 999], [1, 999, 999, 999, 999, 999, 999, 999, 54, 55, 56, 57, 58, 59, 60, 999, 999], [1, 999, 999, 999, 999, 999, 999, 999, 61, 62, 63, 64, 65, 66, 67, 999, 999], [999, 999, 999, 999, 999, 999, 999, 999, 999, 999, 68, 69, 999, 999, 999], [999, 999, 999, 999, 999, 999, 999, 999, 999, 999, 70, 71, 999, 999, 999], [999, 999, 999, 999, 999, 999, 999, 999, 999, 999, 72, 73, 999, 999, 999], [999, 999, 999, 999, 999, 999, 999, 999, 999, 999, 74, 75, 999, 999, 999], [999, 999, 999, 999, 999, 999, 999, 999, 999, 999, 999, 999, 999, 999, 999, 999, 999, 999, 999], [999, 999, 999, 999, 999, 999, 999, 999, 999, 999, 999, 999, 999, 999, 999, 999, 999, 999, 999], [999, 999, 999, 999, 999, 999, 999, 999, 999, 999, 999, 999, 999, 999, 999, 999, 999, 999, 999], [999, 999, 999, 999, 999, 999, 999, 999, 999, 999, 999, 999, 999, 999, 999, 999, 999, 999, 999], [999, 999, 999, 999, 999, 999, 999, 999, 999, 999, 999, 999, 999, 999, 999, 999, 999, 999, 999], [999, 999, 999, 999, 999, 999, 999, 999, 999, 999, 999, 999, 999, 999, 999, 999, 999, 999, 999], [999, 999, 999, 999, 999, 999, 999, 999, 999, 999, 999, 999, 999, 999, 999, 999, 999, 999, 999], [999, 999, 999, 999, 999, 999, 999, 999, 999, 999, 999, 999, 999, 999, 999, 999, 999, 999, 999], [999, 999, 999, 999, 999, 999, 999, 999, 999, 999, 999, 999, 999, 999, 999, 999, 999, 999, 999], [999, 999, 999, 999, 999, 999, 999, 999, 999, 999, 999, 999, 999, 999, 999, 999, 999, 999, 999], [999, 999, 999, 999, 999, 999, 999, 999, 999, 999, 999, 999, 999, 999, 999, 999, 999, 999, 999], [999, 999, 999, 999, 999, 999, 999, 999, 999, 999, 999, 999, 999, 999, 999, 999, 999, 999, 999], [999, 999], [999, 999], [999, 999], [999, 999], [999, 999], [999, 999], [999, 999], [999, 999], [999, 999], [999, 999], [999, 999], [999, 999], [999, 999], [999, 999], [999, 999], [999, 999], [999, 999], [999, 999], [999, 999], [999, 999], [999, 999], [999, 999], [999, 999], [999, 999], [999, 999], [999, 999], [999, 999], [999, 999], [999, 999], [999, 999], [999, 999], [999, 999], [999, 999], [999, 999], [999, 999], [999, 999], [999, 999, 999, 999, 999, 999, 999, 999, 999, 999, 999, 999, 999, 999, 999, 999, 999, 999, 999, 999, 999, 999, 999, 999, 999, 999, 999, 999, 999, 999, 999, 999, 999, 999, 999, 999, 999, 999, 999, 999, 999, 999, 999, 999, 999, 999, 999, 999, 93, 999, 999, 999, 999, 999, 999, 999, 999, 999, 999, 999, 999, 999, 999, 999, 999, 999, 999, 999, 999, 999, 999, 999, 999, 999, 999, 999, 999, 999, 999, 999, 999, 999, 999, 999, 999, 999, 999, 999, 999, 999, 999, 999, 999, 999, 999, 999, 999, 999, 999, 999, 999, 999, 999, 999, 999, 999, 999, 999, 999, 999, 999, 999, 999, 999, 999, 999, 999, 999, 999, 999, 999, 999, 999, 999, 999, 999, 999, 999, 999, 999, 999], [999, 999, 999, 999, 999, 999, 999, 999, 999, 999, 999, 999, 999, 999, 999, 999, 999, 999, 999, 999, 999, 999, 999, 999, 999, 999, 999, 999, 999, 999, 999, 999, 999, 999, 999, 999, 999, 999, 999, 999, 999, 999, 999, 999, 999, 999, 999, 999, 999, 999, 999, 999, 999, 999, 999, 999, 999, 999, 999, 999, 999, 999, 999, 999, 999, 999, 999, 999, 999, 999, 999, 999], [999, 999, 999, 999, 999, 999, 999, 999, 999, 999, 999, 999, 999, 999, 999, 999, 999, 999, 999, 999, 999, 999, 999, 999, 999, 999, 999, 999, 999, 999, 999, 999, 999, 999, 999, 999, 999, 999, 999, 999, 999, 999, 999, 999, 999, 999, 999, 999, 999, 999, 999, 999, 999, 999, 999, 999, 999, 999, 999, 999, 999, 999, 999, 999, 999, 999, 999, 999, 999, 999, 999, 999], [999, 999, 999, 999, 999, 999, 999, 999, 999, 999, 999, 999, 999, 999, 999, 999, 999, 999, 999, 999, 999, 999, 999, 999, 999, 999, 999, 999, 999, 999, 999, 999, 999, 999, 999, 999, 999, 999, 999, 999, 999, 999, 999, 999, 999, 999, 999, 999, 999, 999, 999, 999, 999, 999, 999, 999, 999, 999, 999, 999, 999, 999, 999, 999, 999, 999, 999, 999, 999, 999, 999, 999], [999, 999, 999, 999, 999, 999, 999, 999, 999, 999, 999, 999, 999, 999, 999, 999, 999, 999, 999, 999, 999, 999, 999, 999, 999, 999, 999, 999, 999, 999, 999, 999, 999, 999, 999, 999, 999, 999, 999, 999, 999, 999, 999, 999, 999, 999, 999, 999, 999, 999, 999, 999, 999, 999, 999, 999, 999, 999, 999, 999, 999, 999, 999, 999, 999, 999, 999, 999, 999, 999, 999, 999], [999, 999, 999, 999, 999, 999, 999, 999, 999, 999, 999, 999, 999, 999, 999, 999, 999, 999, 999, 999, 999, 999, 999], [999, 999, 999, 999, 999, 999, 999, 999, 999, 999, 999, 999, 999, 999, 999, 999, 999, 999, 999, 999, 999, 999, 999], [999, 999, 999, 999, 999, 999, 999, 999, 999, 999, 999, 999, 999, 999, 999, 999, 999, 999, 999, 999, 999, 999, 999], [999, 999, 999, 999, 999, 999, 999, 999, 999, 999, 999, 999, 999, 999, 999, 999, 999, 999, 999, 999, 999, 999, 999], [999, 999, 999, 999, 999, 999, 999, 999, 999, 999, 999, 999, 999, 999, 999, 999, 999, 999, 999, 999, 999, 999, 999], [999, 999, 999, 999, 999, 999, 999, 999, 999, 999, 999, 999, 999, 999, 999, 999, 999, 999, 999, 999, 999, 999, 999], [999, 999, 999, 999, 999, 999, 999, 999, 999, 999, 999, 999, 999, 999, 999, 999, 999, 999, 999, 999, 999, 999, 999], [999, 999, 999, 999, 999, 999, 999, 999, 999, 999, 999, 999, 999, 999, 999, 999, 999, 999, 999, 999, 999, 999, 999], [999, 999, 999, 999, 999, 999, 999, 999, 999, 999, 999, 999, 999, 999, 999, 999, 999, 999, 999, 999, 999, 999, 999], [999, 999, 999, 999, 999, 999, 999, 999, 999, 999, 999, 999, 999, 999, 999, 999, 999, 999, 999, 999, 999, 999, 999], [999, 999, 999, 999, 999, 999, 999, 999, 999, 999, 999, 999, 999, 999, 999, 999, 999, 999, 999, 999, 999, 999, 999], [999, 999, 999, 999, 999, 999, 999, 999, 999, 999, 999, 999, 999, 999, 999, 999, 999, 999, 999, 999, 999, 999, 999], []]
def kd (c k : Nat) : Nat := (kdT.getD c []).getD k 9
def tyx (c k : Nat) : Nat := (tyT.getD c []).getD k 9
def nf (c : Nat) : Nat := if c = 14 then 131 else (kdT.getD c []).length
def cl (a : Nat) : Nat := clT.getD a 99
def lk (a k : Nat) : Nat := (lkT.getD a []).getD k 999
def oa (a i : Nat) : Option Nat := if cl a = 11 ∧ i < 4 then some (16 + i) else if cl a = 4 ∧ i < 3 then some (28 + 3 * (a - 16) + i) else if cl a = 14 ∧ i < 4 then some (77 + i) else if cl a = 13 ∧ i < 3 then some (81 + 3 * (a - 77) + i) else none
def ks (c : Nat) : List Nat := (List.range (nf c)).filter (fun k => decide (2 ≤ kd c k) && decide (kd c k ≤ 4))
def cL : List (Nat × Nat) := (List.range 94).flatMap (fun a => (ks (cl a)).map (fun k => (a, k)) ++ [(a, 200)] ++ (if a = 76 then [(76, 201), (76, 202)] else []))
def fvl (ad : Nat → Nat) (y : Ly) (σ : St) (a k t : Nat) : Value :=
  if t = 0 then .int (sV σ a k) else if t = 1 then .long (sJ σ a k) else if t ≤ 4 then .ref (yP y a k) else if t = 5 then .ref (ad (lk a k)) else if t = 6 then va_rf ((sO σ a k).map ad) else .ref (yP y (sX σ a k).1 (sX σ a k).2)
def fls (ad : Nat → Nat) (y : Ly) (σ : St) (a : Nat) : List Value := (List.range (nf (cl a))).map (fun k => fvl ad y σ a k (kd (cl a) k))
def rwd (ad : Nat → Nat) (y : Ly) (σ : St) (a k t : Nat) : vp_A := (yN y a k, if t = 2 then .inl (sA σ a k) else if t = 3 then .inr (.inl (sB σ a k)) else .inr (.inr (.inr (.inr (fun i => (oa a i).map ad)))))
def clv (g : Nat → ClassId) (ad : Nat → Nat) (y : Ly) (σ : St) (x : Nat × Nat) : Nat × va_E := if x.2 = 200 then (ad x.1, .inr (cl x.1, fls ad y σ x.1)) else (yP y x.1 x.2, .inl (g (tyx (cl x.1) x.2), rwd ad y σ x.1 x.2 (kd (cl x.1) x.2)))
def ws (g : Nat → ClassId) (ad : Nat → Nat) (y : Ly) (σ : St) : va_W := cL.map (clv g ad y σ)
def incr : Nat → List Nat → Bool
  | _, [] => true
  | a, b :: t => decide (a < b) && incr b t
theorem incr_lt : ∀ (l : List Nat) (a : Nat), incr a l = true → ∀ x ∈ l, a < x
  | [], _, _, x, hx => absurd hx List.not_mem_nil
  | b :: t, a, h, x, hx => by
    simp only [incr, Bool.and_eq_true, decide_eq_true_eq] at h
    rcases List.mem_cons.mp hx with rfl | hx
    · exact h.1
    · exact Nat.lt_trans h.1 (incr_lt t b h.2 x hx)
theorem incr_inj : ∀ (l : List Nat) (a : Nat), incr a l = true → ∀ i j x : Nat, l[i]? = some x → l[j]? = some x → i = j
  | [], _, _, i, j, x, hi, _ => by simp at hi
  | b :: t, a, h, i, j, x, hi, hj => by
    simp only [incr, Bool.and_eq_true, decide_eq_true_eq] at h
    cases i with
    | zero => cases j with
      | zero => rfl
      | succ j =>
        have e : b = x := by simpa using hi
        have := incr_lt t b h.2 x (List.mem_of_getElem? (i := j) (by simpa using hj))
        omega
    | succ i => cases j with
      | zero =>
        have e : b = x := by simpa using hj
        have := incr_lt t b h.2 x (List.mem_of_getElem? (i := i) (by simpa using hi))
        omega
      | succ j => exact congrArg (· + 1) (incr_inj t b h.2 i j x (by simpa using hi) (by simpa using hj))
theorem cL_incr : incr 0 (cL.map (fun x => x.1 * 256 + x.2 + 1)) = true := by decide +kernel
theorem cL_inj {i j : Nat} {x : Nat × Nat} (hi : cL[i]? = some x) (hj : cL[j]? = some x) : i = j :=
  incr_inj _ 0 cL_incr i j (x.1 * 256 + x.2 + 1) (by rw [List.getElem?_map, hi]; rfl) (by rw [List.getElem?_map, hj]; rfl)
theorem cL_nd : va_nd (List.range cL.length) = true := by decide +kernel
theorem cl_lt {a : Nat} (h : cl a ≠ 99) : a < 94 := by
  apply Decidable.byContradiction
  intro q
  apply h
  show clT.getD a 99 = 99
  rw [List.getD_eq_getElem?_getD, List.getElem?_eq_none (by show clT.length ≤ a; have : clT.length = 94 := by decide
                                                            omega)]
  rfl
theorem kd_len {c k : Nat} (h : kd c k ≠ 9) : k < (kdT.getD c []).length := by
  apply Decidable.byContradiction
  intro q
  apply h
  show (kdT.getD c []).getD k 9 = 9
  rw [List.getD_eq_getElem?_getD, List.getElem?_eq_none (by show (kdT.getD c []).length ≤ k; exact Nat.le_of_not_lt q)]
  rfl
theorem kdT_big {c : Nat} (h : ¬ c < 16) : kdT.getD c [] = [] := by
  rw [List.getD_eq_getElem?_getD, List.getElem?_eq_none (by show kdT.length ≤ c; have : kdT.length = 16 := by decide
                                                            omega)]
  rfl
theorem nf_big {c : Nat} (h : ¬ c < 16) : nf c = 0 := by
  unfold nf
  rw [if_neg (by omega), kdT_big h]; rfl
theorem nf_le (c : Nat) : nf c ≤ 131 := by
  by_cases hc : c < 16
  · exact (show ∀ c, c < 16 → nf c ≤ 131 by decide +kernel) c hc
  · rw [nf_big hc]; decide
theorem kd_c {c k : Nat} (h : kd c k ≠ 9) : c < 16 := by
  apply Decidable.byContradiction
  intro q
  have := kd_len h
  rw [kdT_big q] at this
  exact absurd this (Nat.not_lt_zero _)
theorem kd_lt {c k : Nat} (h : kd c k ≠ 9) (hk : k < 200) : k < nf c := by
  have hc := kd_c h
  have hl := kd_len h
  by_cases h14 : c = 14
  · subst h14
    exact (show ∀ k, k < 200 → kd 14 k ≠ 9 → k < nf 14 by decide +kernel) k hk h
  · unfold nf
    rw [if_neg h14]; exact hl
theorem kd_hid {c k : Nat} (h : kd c k ≠ 9) (hk : ¬ k < 200) : c = 14 ∧ (k = 201 ∨ k = 202) := by
  have hc := kd_c h
  have hl := kd_len h
  have h3 := (show ∀ c, c < 16 → (kdT.getD c []).length ≤ 203 by decide +kernel) c hc
  have h5 : ∀ c, c < 16 → ∀ k, k < 203 → kd c k = 9 ∨ k < 200 ∨ c = 14 := by decide +kernel
  have h6 : ∀ k, k < 203 → kd 14 k = 9 ∨ k < 200 ∨ k = 201 ∨ k = 202 := by decide +kernel
  rcases h5 c hc k (by omega) with q | q | q
  · exact absurd q h
  · exact absurd q hk
  · subst q
    rcases h6 k (by omega) with q | q | q
    · exact absurd q h
    · exact absurd q hk
    · exact ⟨rfl, q⟩
theorem kd_99 (k : Nat) : kd 99 k = 9 := by
  show ([] : List Nat).getD k 9 = 9
  simp
theorem mem_obj {a : Nat} (h : cl a ≠ 99) : (a, 200) ∈ cL := List.mem_flatMap.mpr ⟨a, List.mem_range.mpr (cl_lt h), List.mem_append_left _ (List.mem_append_right _ List.mem_cons_self)⟩
theorem mem_row {a k : Nat} (h1 : 2 ≤ kd (cl a) k) (h2 : kd (cl a) k ≤ 4) : (a, k) ∈ cL := by
  have hc : cl a ≠ 99 := fun q => by rw [q, kd_99] at h2; omega
  by_cases hk : k < 200
  · refine List.mem_flatMap.mpr ⟨a, List.mem_range.mpr (cl_lt hc), List.mem_append_left _ (List.mem_append_left _ (List.mem_map.mpr ⟨k, ?_, rfl⟩))⟩
    refine List.mem_filter.mpr ⟨List.mem_range.mpr (kd_lt (by omega) hk), ?_⟩
    simp [h1, h2]
  · obtain ⟨e1, e2⟩ := kd_hid (c := cl a) (k := k) (by omega) hk
    have e3 : a = 76 := (show ∀ z, z < 94 → cl z = 14 → z = 76 by decide +kernel) a (cl_lt hc) e1
    subst e3
    refine List.mem_flatMap.mpr ⟨76, List.mem_range.mpr (cl_lt hc), List.mem_append_right _ ?_⟩
    rw [if_pos rfl]
    rcases e2 with rfl | rfl <;> simp
theorem row_ne {a k : Nat} (h1 : 2 ≤ kd (cl a) k) (h2 : kd (cl a) k ≤ 4) : k ≠ 200 := by
  intro q
  subst q
  have := (kd_hid (c := cl a) (k := 200) (by omega) (by decide)).2
  omega
theorem ws_at {g : Nat → ClassId} {ad : Nat → Nat} {y : Ly} {σ : St} {x : Nat × Nat} (h : x ∈ cL) : ∃ q0 : Nat, cL[q0]? = some x ∧ (ws g ad y σ)[q0]? = some (clv g ad y σ x) := by
  obtain ⟨q0, hq⟩ := List.mem_iff_getElem?.mp h
  exact ⟨q0, hq, by show (cL.map _)[q0]? = _; rw [List.getElem?_map, hq]; rfl⟩
theorem clv_o {g : Nat → ClassId} {ad : Nat → Nat} {y : Ly} {σ : St} {a c : Nat} (h : cl a = c) : clv g ad y σ (a, 200) = (ad a, .inr (c, fls ad y σ a)) := by subst h; rfl
theorem clv_r {g : Nat → ClassId} {ad : Nat → Nat} {y : Ly} {σ : St} {a k : Nat} (h : k ≠ 200) : clv g ad y σ (a, k) = (yP y a k, .inl (g (tyx (cl a) k), rwd ad y σ a k (kd (cl a) k))) := if_neg h
theorem ws_set {g : Nat → ClassId} {ad : Nat → Nat} {y : Ly} {σ σ' : St} {x : Nat × Nat} {q0 : Nat} {v : Nat × va_E} (hq : cL[q0]? = some x) (hoth : ∀ z, z ≠ x → clv g ad y σ' z = clv g ad y σ z) (hv : v = clv g ad y σ' x) : (ws g ad y σ).set q0 v = ws g ad y σ' := by
  apply List.ext_getElem?
  intro i
  show ((cL.map (clv g ad y σ)).set q0 v)[i]? = (cL.map (clv g ad y σ'))[i]?
  by_cases h : q0 = i
  · subst h
    have hl := (List.getElem?_eq_some_iff.mp hq).1
    rw [List.getElem?_set_self (by rw [List.length_map]; exact hl), List.getElem?_map, hq, hv]
    rfl
  · rw [List.getElem?_set_ne h, List.getElem?_map, List.getElem?_map]
    cases e : cL[i]? with
    | none => rfl
    | some z =>
      have hz : z ≠ x := fun q => h (cL_inj hq (q ▸ e))
      show some (clv g ad y σ z) = some (clv g ad y σ' z)
      rw [hoth z hz]
/-- what a store into field k of object a leaves as it was -/
def PutR (σ σ' : St) (a k : Nat) : Prop := (∀ a' k', (a' = a → k' ≠ k) → sV σ' a' k' = sV σ a' k' ∧ sJ σ' a' k' = sJ σ a' k' ∧ sO σ' a' k' = sO σ a' k' ∧ sX σ' a' k' = sX σ a' k') ∧ sA σ' = sA σ ∧ sB σ' = sB σ
theorem putV {σ : St} {a k : Nat} {x : Int32} : PutR σ (uV σ a k x) a k := ⟨fun _ _ h => ⟨w2_ne h, rfl, rfl, rfl⟩, rfl, rfl⟩
theorem putJ {σ : St} {a k : Nat} {x : Int64} : PutR σ (uJ σ a k x) a k := ⟨fun _ _ h => ⟨rfl, w2_ne h, rfl, rfl⟩, rfl, rfl⟩
theorem putO {σ : St} {a k : Nat} {x : Option Nat} : PutR σ (uO σ a k x) a k := ⟨fun _ _ h => ⟨rfl, rfl, w2_ne h, rfl⟩, rfl, rfl⟩
theorem putX {σ : St} {a k : Nat} {x : Nat × Nat} : PutR σ (uX σ a k x) a k := ⟨fun _ _ h => ⟨rfl, rfl, rfl, w2_ne h⟩, rfl, rfl⟩
theorem fvl_same {ad : Nat → Nat} {y : Ly} {σ σ' : St} {a k t : Nat} (h : sV σ' a k = sV σ a k ∧ sJ σ' a k = sJ σ a k ∧ sO σ' a k = sO σ a k ∧ sX σ' a k = sX σ a k) : fvl ad y σ' a k t = fvl ad y σ a k t := by
  unfold fvl; rw [h.1, h.2.1, h.2.2.1, h.2.2.2]
theorem ws_put {g : Nat → ClassId} {ad : Nat → Nat} {y : Ly} {σ σ' : St} {a k q0 c : Nat} {v : Value} (hcl : cl a = c) (hq : cL[q0]? = some (a, 200)) (hv : fvl ad y σ' a k (kd c k) = v) (hR : PutR σ σ' a k) : (ws g ad y σ).set q0 (ad a, .inr (c, (fls ad y σ a).set k v)) = ws g ad y σ' := by
  refine ws_set hq ?_ ?_
  · intro z hz
    show (if z.2 = 200 then _ else _) = (if z.2 = 200 then _ else _)
    by_cases h2 : z.2 = 200
    · rw [if_pos h2, if_pos h2]
      have hne : z.1 ≠ a := fun q => hz (Prod.ext q h2)
      have : fls ad y σ' z.1 = fls ad y σ z.1 := by
        unfold fls
        apply List.map_congr_left
        intro j _
        exact fvl_same (hR.1 z.1 j (fun q => absurd q hne))
      rw [this]
    · rw [if_neg h2, if_neg h2]
      unfold rwd
      rw [hR.2.1, hR.2.2]
  · rw [clv_o hcl]
    have : (fls ad y σ a).set k v = fls ad y σ' a := by
      apply List.ext_getElem?
      intro i
      show ((List.map _ (List.range _)).set k v)[i]? = (List.map _ (List.range _))[i]?
      by_cases h : k = i
      · subst h
        by_cases hl : k < nf (cl a)
        · rw [List.getElem?_set_self (by rw [List.length_map, List.length_range]; exact hl), List.getElem?_map, List.getElem?_range hl]
          show some v = some (fvl ad y σ' a k (kd (cl a) k))
          rw [hcl, hv]
        · rw [List.getElem?_eq_none (by rw [List.length_set, List.length_map, List.length_range]; omega), List.getElem?_eq_none (by rw [List.length_map, List.length_range]; omega)]
      · rw [List.getElem?_set_ne h, List.getElem?_map, List.getElem?_map]
        cases e : (List.range (nf (cl a)))[i]? with
        | none => rfl
        | some j =>
          have hj : j = i := by
            have hl := (List.getElem?_eq_some_iff.mp e).1
            rw [List.length_range] at hl
            rw [List.getElem?_range hl] at e
            exact (Option.some.inj e).symm
          subst hj
          exact congrArg some (fvl_same (hR.1 a j (fun _ q => h q.symm))).symm
    rw [this]
theorem ws_row {g : Nat → ClassId} {ad : Nat → Nat} {y : Ly} {σ σ' : St} {a k q0 : Nat} {v : Nat × va_E} (hk : k ≠ 200) (hq : cL[q0]? = some (a, k)) (hv : v = (yP y a k, .inl (g (tyx (cl a) k), rwd ad y σ' a k (kd (cl a) k)))) (hF : sV σ' = sV σ ∧ sJ σ' = sJ σ ∧ sO σ' = sO σ ∧ sX σ' = sX σ) (hA : ∀ a' k', (a' = a → k' ≠ k) → sA σ' a' k' = sA σ a' k' ∧ sB σ' a' k' = sB σ a' k') : (ws g ad y σ).set q0 v = ws g ad y σ' := by
  refine ws_set hq ?_ ?_
  · intro z hz
    show (if z.2 = 200 then _ else _) = (if z.2 = 200 then _ else _)
    by_cases h2 : z.2 = 200
    · rw [if_pos h2, if_pos h2]
      have : fls ad y σ' z.1 = fls ad y σ z.1 := by
        unfold fls
        apply List.map_congr_left
        intro j _
        exact fvl_same ⟨congrFun (congrFun hF.1 _) _, congrFun (congrFun hF.2.1 _) _, congrFun (congrFun hF.2.2.1 _) _, congrFun (congrFun hF.2.2.2 _) _⟩
      rw [this]
    · rw [if_neg h2, if_neg h2]
      unfold rwd
      obtain ⟨e1, e2⟩ := hA z.1 z.2 (fun q1 q2 => hz (Prod.ext q1 q2))
      rw [e1, e2]
  · rw [clv_r hk]; exact hv
theorem rowA {σ : St} {a k : Nat} {f : Nat → Int32} : (sV (uF σ a k f) = sV σ ∧ sJ (uF σ a k f) = sJ σ ∧ sO (uF σ a k f) = sO σ ∧ sX (uF σ a k f) = sX σ) ∧ ∀ a' k', (a' = a → k' ≠ k) → sA (uF σ a k f) a' k' = sA σ a' k' ∧ sB (uF σ a k f) a' k' = sB σ a' k' := ⟨⟨rfl, rfl, rfl, rfl⟩, fun _ _ h => ⟨w2_ne h, rfl⟩⟩
theorem rowB {σ : St} {a k : Nat} {f : Nat → Int64} : (sV (uE σ a k f) = sV σ ∧ sJ (uE σ a k f) = sJ σ ∧ sO (uE σ a k f) = sO σ ∧ sX (uE σ a k f) = sX σ) ∧ ∀ a' k', (a' = a → k' ≠ k) → sA (uE σ a k f) a' k' = sA σ a' k' ∧ sB (uE σ a k f) a' k' = sB σ a' k' := ⟨⟨rfl, rfl, rfl, rfl⟩, fun _ _ h => ⟨rfl, w2_ne h⟩⟩
theorem map_range {α : Type} (l : List α) : (List.range l.length).map (fun i => l[i]?) = l.map some := by
  apply List.ext_getElem?
  intro i
  rw [List.getElem?_map, List.getElem?_map]
  by_cases h : i < l.length
  · rw [List.getElem?_range h, List.getElem?_eq_getElem h]
    show some l[i]? = _
    rw [List.getElem?_eq_getElem h]; rfl
  · rw [List.getElem?_eq_none (by rw [List.length_range]; omega), List.getElem?_eq_none (by omega)]; rfl
theorem ws_all {g : Nat → ClassId} {ad : Nat → Nat} {y : Ly} {σ : St} : (List.range cL.length).map (fun i => (ws g ad y σ)[i]?) = (ws g ad y σ).map some := by
  have h := map_range (ws g ad y σ)
  rw [show (ws g ad y σ).length = cL.length from List.length_map _] at h
  exact h
/-! What is asked of a state ahead of each act -/
def xA (y : Ly) (σ : St) (a k : Nat) (v : Int32) (K : Int32 → Prop) : Prop := ∃ i : Nat, v = nI i ∧ i < yN y a k ∧ yN y a k < 2147483648 ∧ K (sA σ a k i)
def xB (y : Ly) (σ : St) (a k : Nat) (v : Int32) (K : Int64 → Prop) : Prop := ∃ i : Nat, v = nI i ∧ i < yN y a k ∧ yN y a k < 2147483648 ∧ K (sB σ a k i)
def xQ (y : Ly) (a k : Nat) (v : Int32) (K : Nat → Prop) : Prop := ∃ i b : Nat, v = nI i ∧ i < yN y a k ∧ yN y a k < 2147483648 ∧ oa a i = some b ∧ K b
def xS (y : Ly) (σ : St) (a k : Nat) (v x : Int32) (K : St → Prop) : Prop := ∃ i : Nat, v = nI i ∧ i < yN y a k ∧ yN y a k < 2147483648 ∧ K (uA σ a k i x)
def xT (y : Ly) (σ : St) (a k : Nat) (v : Int32) (x : Int64) (K : St → Prop) : Prop := ∃ i : Nat, v = nI i ∧ i < yN y a k ∧ yN y a k < 2147483648 ∧ K (uB σ a k i x)
def xP (σ' : St) (K : St → Prop) : Prop := K σ'
def nb (x : Int32) : Prop := x = 0 ∨ x = 1
theorem nb_n {x : Int32} (h : nb x) : narrow FieldType.boolean (.int x) = .int x := by rcases h with rfl | rfl <;> rfl
theorem nb_f {x : Int32} (h : nb x) : fits FieldType.boolean (.int x) = true := by rcases h with rfl | rfl <;> rfl
theorem fV {ad : Nat → Nat} {y : Ly} {σ : St} {a k : Nat} {x : Int32} : fvl ad y (uV σ a k x) a k 0 = .int x := by show Value.int (w2 σ.1 a k x a k) = _; rw [w2_eq]
theorem fJ {ad : Nat → Nat} {y : Ly} {σ : St} {a k : Nat} {x : Int64} : fvl ad y (uJ σ a k x) a k 1 = .long x := by show Value.long (w2 σ.2.1 a k x a k) = _; rw [w2_eq]
theorem fO {ad : Nat → Nat} {y : Ly} {σ : St} {a k : Nat} {x : Option Nat} : fvl ad y (uO σ a k x) a k 6 = va_rf (x.map ad) := by show va_rf ((w2 σ.2.2.2.2.1 a k x a k).map ad) = _; rw [w2_eq]
theorem fX {ad : Nat → Nat} {y : Ly} {σ : St} {a k : Nat} {x : Nat × Nat} : fvl ad y (uX σ a k x) a k 7 = .ref (yP y x.1 x.2) := by show Value.ref (yP y (w2 σ.2.2.2.2.2 a k x a k).1 (w2 σ.2.2.2.2.2 a k x a k).2) = _; rw [w2_eq]
theorem kdp {a c k t : Nat} (h : cl a = c) (h2 : kd c k = t) : kd (cl a) k = t := h ▸ h2
theorem typ {a c k t : Nat} (h : cl a = c) (h2 : tyx c k = t) : tyx (cl a) k = t := h ▸ h2
def xC (y : Ly) (σ : St) (a k a2 k2 : Nat) (ty : FieldType) (sp dp n : Int32) (K : St → Prop) : Prop := ∃ i j t : Nat, sp = nI i ∧ dp = nI j ∧ n = nI t ∧ i + t ≤ yN y a k ∧ j + t ≤ yN y a2 k2 ∧ yN y a k < 2147483648 ∧ yN y a2 k2 < 2147483648 ∧ (∀ z, z < t → fits ty (.int (sA σ a k (i + z))) = true) ∧ K (uF σ a2 k2 (va_cpy (sA σ a k) (sA σ a2 k2) i j t))
def xD (y : Ly) (σ : St) (a k a2 k2 : Nat) (sp dp n : Int32) (K : St → Prop) : Prop := ∃ i j t : Nat, sp = nI i ∧ dp = nI j ∧ n = nI t ∧ i + t ≤ yN y a k ∧ j + t ≤ yN y a2 k2 ∧ yN y a k < 2147483648 ∧ yN y a2 k2 < 2147483648 ∧ K (uE σ a2 k2 (va_cpy (sB σ a k) (sB σ a2 k2) i j t))
section UF
variable {p : Program} {l : Launch} {e : Env} {R : Room} {s : State} {m : MethodId} {args : Array Value} {below : List Frame} {meth : Method} {c : Code} {H : Heap} {locs : List Loc} {cells slots : Nat} {Q : State → Prop}
variable {cc : ByteArray} {pc : Nat} {ls : Array Slot} {rest : List Value} {A0 : Nat → Prop} {D : va_G} {y0 : MethodName} {nL : Nat} {r0 : Option FieldType} {g : Nat → ClassId} {sl : List SL} {ad : Nat → Nat} {y : Ly} {σ : St} {a : Nat}
theorem ugf {C ref : String} {T : u_T} {N cn index : Nat} (G : GV l p s m args meth c y0 cc nL r0 g D sl A0) (hP : va_P D CL (ws g ad y σ) H) (hcl : cl a = cn) (hin : ∀ w ∈ u_ws C T N, w ∈ lw_ok) (hc : CL[cn]? = some (C, T, N)) (k : Nat) (hk : k < N) (hnf : nf cn = N) (hlink : Cond.fieldLink y0.cls index ref (T k).2.1 (T k).2.2.1 ∈ lw_ok) (hsame : (T k).1 = ref) {v : Value} (hv : fvl ad y σ a k (kd cn k) = v) (hdg : decode cc pc = .ok (.getfield index, 3))
    (kk : W p l e R s m args below meth c H locs cells slots Q (F0 m (pc + 3) ls (v :: rest))) : W p l e R s m args below meth c H locs cells slots Q (F0 m pc ls (.ref (ad a) :: rest)) := by
  have h99 : cl a ≠ 99 := fun q => by rw [hcl] at q; subst q; simp at hc
  obtain ⟨q0, -, he⟩ := ws_at (g := g) (ad := ad) (y := y) (σ := σ) (mem_obj h99)
  rw [clv_o hcl] at he
  refine kg G hin hP q0 he hc k hk hlink hsame (v := v) ?_ hdg kk
  show (List.map _ (List.range (nf (cl a))))[k]? = _
  rw [List.getElem?_map, List.getElem?_range (by rw [hcl, hnf]; exact hk)]
  show some (fvl ad y σ a k (kd (cl a) k)) = some v
  rw [hcl, hv]
theorem ugfN {C ref host : String} {T : u_T} {N cn index : Nat} (G : GV l p s m args meth c y0 cc nL r0 g D sl A0) (hP : va_P D CL (ws g ad y σ) H) (hcl : cl a = cn) (hin : ∀ w ∈ u_ws C T N, w ∈ lw_ok) (hc : CL[cn]? = some (C, T, N)) (k : Nat) (hk : k < N) (hnf : nf cn = N) (hlink : Cond.fieldLinkNest y0.cls index ref (T k).2.1 (T k).2.2.1 host ∈ lw_nest) (hsame : (T k).1 = ref) {v : Value} (hv : fvl ad y σ a k (kd cn k) = v) (hdg : decode cc pc = .ok (.getfield index, 3))
    (kk : W p l e R s m args below meth c H locs cells slots Q (F0 m (pc + 3) ls (v :: rest))) : W p l e R s m args below meth c H locs cells slots Q (F0 m pc ls (.ref (ad a) :: rest)) := by
  have h99 : cl a ≠ 99 := fun q => by rw [hcl] at q; subst q; simp at hc
  obtain ⟨q0, -, he⟩ := ws_at (g := g) (ad := ad) (y := y) (σ := σ) (mem_obj h99)
  rw [clv_o hcl] at he
  refine kgN G hin hP q0 he hc k hk hlink hsame (v := v) ?_ hdg kk
  show (List.map _ (List.range (nf (cl a))))[k]? = _
  rw [List.getElem?_map, List.getElem?_range (by rw [hcl, hnf]; exact hk)]
  show some (fvl ad y σ a k (kd (cl a) k)) = some v
  rw [hcl, hv]
theorem upf {C ref : String} {T : u_T} {N cn index : Nat} {σ' : St} {K : St → Prop} (G : GV l p s m args meth c y0 cc nL r0 g D sl A0) (hP : va_P D CL (ws g ad y σ) H) (hD : va_D A0 (ws g ad y σ)) (hS : va_S A0 s.heap H locs) (h : xP σ' K) (k : Nat) (hR : PutR σ σ' a k) (hcl : cl a = cn) (hin : ∀ w ∈ u_ws C T N, w ∈ lw_ok) (ty0 : Nat → FieldType) (hty : ∀ k, k < N → parseFieldDescriptor (T k).2.2.1 = some (ty0 k)) (hnm : ∀ a, a < N → ∀ b, b < N → a ≠ b → (T a).2.1 ≠ (T b).2.1) (hc : CL[cn]? = some (C, T, N)) (hk : k < N) (hnf : nf cn = N) (hlink : Cond.fieldLink y0.cls index ref (T k).2.1 (T k).2.2.1 ∈ lw_ok) (hsame : (T k).1 = ref) (hfin : (T k).2.2.2 = false) {v : Value} (hv : fvl ad y σ' a k (kd cn k) = v) (hn : narrow (ty0 k) v = v) (hfit : fits (ty0 k) v = true)
    (hdg : decode cc pc = .ok (.putfield index, 3)) (kk : ∀ (σ1 : St) (H1 : Heap) (locs1 : List Loc), K σ1 → va_P D CL (ws g ad y σ1) H1 → va_D A0 (ws g ad y σ1) → va_S A0 s.heap H1 locs1 → W p l e R s m args below meth c H1 locs1 cells slots Q (F0 m (pc + 3) ls rest)) : W p l e R s m args below meth c H locs cells slots Q (F0 m pc ls (v :: .ref (ad a) :: rest)) := by
  have h99 : cl a ≠ 99 := fun q => by rw [hcl] at q; subst q; simp at hc
  obtain ⟨q0, hq, he⟩ := ws_at (g := g) (ad := ad) (y := y) (σ := σ) (mem_obj h99)
  rw [clv_o hcl] at he
  refine kp G hin ty0 hty hnm hP hD hS q0 he hc k hk hlink hsame hfin hn hfit ?_ hdg ?_
  · show k < (List.map _ (List.range (nf (cl a)))).length
    rw [List.length_map, List.length_range, hcl, hnf]; exact hk
  · intro H1 locs1 hP1 hD1 hS1
    rw [ws_put hcl hq hv hR] at hP1 hD1
    exact kk σ' H1 locs1 h hP1 hD1 hS1
theorem upfN {C ref host : String} {T : u_T} {N cn index : Nat} {σ' : St} {K : St → Prop} (G : GV l p s m args meth c y0 cc nL r0 g D sl A0) (hP : va_P D CL (ws g ad y σ) H) (hD : va_D A0 (ws g ad y σ)) (hS : va_S A0 s.heap H locs) (h : xP σ' K) (k : Nat) (hR : PutR σ σ' a k) (hcl : cl a = cn) (hin : ∀ w ∈ u_ws C T N, w ∈ lw_ok) (ty0 : Nat → FieldType) (hty : ∀ k, k < N → parseFieldDescriptor (T k).2.2.1 = some (ty0 k)) (hnm : ∀ a, a < N → ∀ b, b < N → a ≠ b → (T a).2.1 ≠ (T b).2.1) (hc : CL[cn]? = some (C, T, N)) (hk : k < N) (hnf : nf cn = N) (hlink : Cond.fieldLinkNest y0.cls index ref (T k).2.1 (T k).2.2.1 host ∈ lw_nest) (hsame : (T k).1 = ref) (hfin : (T k).2.2.2 = false) {v : Value} (hv : fvl ad y σ' a k (kd cn k) = v) (hn : narrow (ty0 k) v = v) (hfit : fits (ty0 k) v = true)
    (hdg : decode cc pc = .ok (.putfield index, 3)) (kk : ∀ (σ1 : St) (H1 : Heap) (locs1 : List Loc), K σ1 → va_P D CL (ws g ad y σ1) H1 → va_D A0 (ws g ad y σ1) → va_S A0 s.heap H1 locs1 → W p l e R s m args below meth c H1 locs1 cells slots Q (F0 m (pc + 3) ls rest)) : W p l e R s m args below meth c H locs cells slots Q (F0 m pc ls (v :: .ref (ad a) :: rest)) := by
  have h99 : cl a ≠ 99 := fun q => by rw [hcl] at q; subst q; simp at hc
  obtain ⟨q0, hq, he⟩ := ws_at (g := g) (ad := ad) (y := y) (σ := σ) (mem_obj h99)
  rw [clv_o hcl] at he
  refine kpN G hin ty0 hty hnm hP hD hS q0 he hc k hk hlink hsame hfin hn hfit ?_ hdg ?_
  · show k < (List.map _ (List.range (nf (cl a)))).length
    rw [List.length_map, List.length_range, hcl, hnf]; exact hk
  · intro H1 locs1 hP1 hD1 hS1
    rw [ws_put hcl hq hv hR] at hP1 hD1
    exact kk σ' H1 locs1 h hP1 hD1 hS1
theorem row_at {σ0 : St} {k t tk : Nat} (hkd : kd (cl a) k = t) (h1 : 2 ≤ t) (h2 : t ≤ 4) (hty : tyx (cl a) k = tk) : ∃ q0 : Nat, cL[q0]? = some (a, k) ∧ k ≠ 200 ∧ (ws g ad y σ0)[q0]? = some (yP y a k, .inl (g tk, rwd ad y σ0 a k t)) := by
  subst hkd hty
  obtain ⟨q0, hq, he⟩ := ws_at (g := g) (ad := ad) (y := y) (σ := σ0) (mem_row h1 h2)
  rw [clv_r (row_ne h1 h2)] at he
  exact ⟨q0, hq, row_ne h1 h2, he⟩
theorem uiald {k : Nat} {v : Int32} {K : Int32 → Prop} (G : GV l p s m args meth c y0 cc nL r0 g D sl A0) (hP : va_P D CL (ws g ad y σ) H) (hkd : kd (cl a) k = 2) (hty : tyx (cl a) k = 0) (h : xA y σ a k v K) (hdg : decode cc pc = .ok (.iaload, 1))
    (kk : ∀ x : Int32, K x → W p l e R s m args below meth c H locs cells slots Q (F0 m (pc + 1) ls (.int x :: rest))) : W p l e R s m args below meth c H locs cells slots Q (F0 m pc ls (.int v :: .ref (yP y a k) :: rest)) := by
  obtain ⟨i, rfl, hi, hn, hk⟩ := h
  obtain ⟨q0, hq, hne, he⟩ := row_at (g := g) (ad := ad) (y := y) (σ0 := σ) hkd (by decide) (by decide) hty
  exact kiald G hP q0 0 he rfl hi hn hdg (kk _ hk)
theorem uiast {k : Nat} {v x : Int32} {K : St → Prop} (G : GV l p s m args meth c y0 cc nL r0 g D sl A0) (hP : va_P D CL (ws g ad y σ) H) (hD : va_D A0 (ws g ad y σ)) (hS : va_S A0 s.heap H locs) (hkd : kd (cl a) k = 2) (hty : tyx (cl a) k = 0) (h : xS y σ a k v x K) (hdg : decode cc pc = .ok (.iastore, 1))
    (kk : ∀ (σ1 : St) (H1 : Heap) (locs1 : List Loc), K σ1 → va_P D CL (ws g ad y σ1) H1 → va_D A0 (ws g ad y σ1) → va_S A0 s.heap H1 locs1 → W p l e R s m args below meth c H1 locs1 cells slots Q (F0 m (pc + 1) ls rest)) : W p l e R s m args below meth c H locs cells slots Q (F0 m pc ls (.int x :: .int v :: .ref (yP y a k) :: rest)) := by
  obtain ⟨i, rfl, hi, hn, hk⟩ := h
  obtain ⟨q0, hq, hne, he⟩ := row_at (g := g) (ad := ad) (y := y) (σ0 := σ) hkd (by decide) (by decide) hty
  refine kiast G hP hD hS q0 0 he rfl hi hn hdg (fun H1 locs1 hP1 hD1 hS1 => ?_)
  have hw := ws_row (g := g) (ad := ad) (y := y) (σ := σ) (σ' := uA σ a k i x) hne hq rfl rowA.1 rowA.2
  rw [hty, hkd] at hw
  have hv : rwd ad y (uA σ a k i x) a k 2 = (yN y a k, .inl (upd (sA σ a k) i x)) := by
    show (yN y a k, Sum.inl (w2 σ.2.2.1 a k _ a k)) = _
    rw [w2_eq]; rfl
  rw [hv] at hw
  rw [hw] at hP1 hD1
  exact kk _ H1 locs1 hk hP1 hD1 hS1
theorem ubald {k : Nat} {v : Int32} {K : Int32 → Prop} (G : GV l p s m args meth c y0 cc nL r0 g D sl A0) (hP : va_P D CL (ws g ad y σ) H) (hkd : kd (cl a) k = 2) (hty : tyx (cl a) k = 1) (h : xA y σ a k v K) (hdg : decode cc pc = .ok (.baload, 1))
    (kk : ∀ x : Int32, K x → W p l e R s m args below meth c H locs cells slots Q (F0 m (pc + 1) ls (.int x :: rest))) : W p l e R s m args below meth c H locs cells slots Q (F0 m pc ls (.int v :: .ref (yP y a k) :: rest)) := by
  obtain ⟨i, rfl, hi, hn, hk⟩ := h
  obtain ⟨q0, hq, hne, he⟩ := row_at (g := g) (ad := ad) (y := y) (σ0 := σ) hkd (by decide) (by decide) hty
  exact kbald G hP q0 1 he rfl hi hn hdg (kk _ hk)
theorem ubast {k : Nat} {v x : Int32} {K : St → Prop} (G : GV l p s m args meth c y0 cc nL r0 g D sl A0) (hP : va_P D CL (ws g ad y σ) H) (hD : va_D A0 (ws g ad y σ)) (hS : va_S A0 s.heap H locs) (hkd : kd (cl a) k = 2) (hty : tyx (cl a) k = 1) (h : xS y σ a k v (vp_nar .byte x) K) (hdg : decode cc pc = .ok (.bastore, 1))
    (kk : ∀ (σ1 : St) (H1 : Heap) (locs1 : List Loc), K σ1 → va_P D CL (ws g ad y σ1) H1 → va_D A0 (ws g ad y σ1) → va_S A0 s.heap H1 locs1 → W p l e R s m args below meth c H1 locs1 cells slots Q (F0 m (pc + 1) ls rest)) : W p l e R s m args below meth c H locs cells slots Q (F0 m pc ls (.int x :: .int v :: .ref (yP y a k) :: rest)) := by
  obtain ⟨i, rfl, hi, hn, hk⟩ := h
  obtain ⟨q0, hq, hne, he⟩ := row_at (g := g) (ad := ad) (y := y) (σ0 := σ) hkd (by decide) (by decide) hty
  refine kbast G hP hD hS q0 1 he rfl hi hn hdg (fun H1 locs1 hP1 hD1 hS1 => ?_)
  have hw := ws_row (g := g) (ad := ad) (y := y) (σ := σ) (σ' := uA σ a k i (vp_nar .byte x)) hne hq rfl rowA.1 rowA.2
  rw [hty, hkd] at hw
  have hv : rwd ad y (uA σ a k i (vp_nar .byte x)) a k 2 = (yN y a k, .inl (upd (sA σ a k) i (vp_nar .byte x))) := by
    show (yN y a k, Sum.inl (w2 σ.2.2.1 a k _ a k)) = _
    rw [w2_eq]; rfl
  rw [hv] at hw
  rw [hw] at hP1 hD1
  exact kk _ H1 locs1 hk hP1 hD1 hS1
theorem uzald {k : Nat} {v : Int32} {K : Int32 → Prop} (G : GV l p s m args meth c y0 cc nL r0 g D sl A0) (hP : va_P D CL (ws g ad y σ) H) (hkd : kd (cl a) k = 2) (hty : tyx (cl a) k = 3) (h : xA y σ a k v K) (hdg : decode cc pc = .ok (.baload, 1))
    (kk : ∀ x : Int32, K x → W p l e R s m args below meth c H locs cells slots Q (F0 m (pc + 1) ls (.int x :: rest))) : W p l e R s m args below meth c H locs cells slots Q (F0 m pc ls (.int v :: .ref (yP y a k) :: rest)) := by
  obtain ⟨i, rfl, hi, hn, hk⟩ := h
  obtain ⟨q0, hq, hne, he⟩ := row_at (g := g) (ad := ad) (y := y) (σ0 := σ) hkd (by decide) (by decide) hty
  exact kzald G hP q0 3 he rfl hi hn hdg (kk _ hk)
theorem uzast {k : Nat} {v x : Int32} {K : St → Prop} (G : GV l p s m args meth c y0 cc nL r0 g D sl A0) (hP : va_P D CL (ws g ad y σ) H) (hD : va_D A0 (ws g ad y σ)) (hS : va_S A0 s.heap H locs) (hkd : kd (cl a) k = 2) (hty : tyx (cl a) k = 3) (h : xS y σ a k v (vp_nar .boolean x) K) (hdg : decode cc pc = .ok (.bastore, 1))
    (kk : ∀ (σ1 : St) (H1 : Heap) (locs1 : List Loc), K σ1 → va_P D CL (ws g ad y σ1) H1 → va_D A0 (ws g ad y σ1) → va_S A0 s.heap H1 locs1 → W p l e R s m args below meth c H1 locs1 cells slots Q (F0 m (pc + 1) ls rest)) : W p l e R s m args below meth c H locs cells slots Q (F0 m pc ls (.int x :: .int v :: .ref (yP y a k) :: rest)) := by
  obtain ⟨i, rfl, hi, hn, hk⟩ := h
  obtain ⟨q0, hq, hne, he⟩ := row_at (g := g) (ad := ad) (y := y) (σ0 := σ) hkd (by decide) (by decide) hty
  refine kzast G hP hD hS q0 3 he rfl hi hn hdg (fun H1 locs1 hP1 hD1 hS1 => ?_)
  have hw := ws_row (g := g) (ad := ad) (y := y) (σ := σ) (σ' := uA σ a k i (vp_nar .boolean x)) hne hq rfl rowA.1 rowA.2
  rw [hty, hkd] at hw
  have hv : rwd ad y (uA σ a k i (vp_nar .boolean x)) a k 2 = (yN y a k, .inl (upd (sA σ a k) i (vp_nar .boolean x))) := by
    show (yN y a k, Sum.inl (w2 σ.2.2.1 a k _ a k)) = _
    rw [w2_eq]; rfl
  rw [hv] at hw
  rw [hw] at hP1 hD1
  exact kk _ H1 locs1 hk hP1 hD1 hS1
theorem ulald {k : Nat} {v : Int32} {K : Int64 → Prop} (G : GV l p s m args meth c y0 cc nL r0 g D sl A0) (hP : va_P D CL (ws g ad y σ) H) (hkd : kd (cl a) k = 3) (hty : tyx (cl a) k = 2) (h : xB y σ a k v K) (hdg : decode cc pc = .ok (.laload, 1))
    (kk : ∀ x : Int64, K x → W p l e R s m args below meth c H locs cells slots Q (F0 m (pc + 1) ls (.long x :: rest))) : W p l e R s m args below meth c H locs cells slots Q (F0 m pc ls (.int v :: .ref (yP y a k) :: rest)) := by
  obtain ⟨i, rfl, hi, hn, hk⟩ := h
  obtain ⟨q0, hq, hne, he⟩ := row_at (g := g) (ad := ad) (y := y) (σ0 := σ) hkd (by decide) (by decide) hty
  exact klald G hP q0 2 he rfl hi hn hdg (kk _ hk)
theorem ulast {k : Nat} {v : Int32} {x : Int64} {K : St → Prop} (G : GV l p s m args meth c y0 cc nL r0 g D sl A0) (hP : va_P D CL (ws g ad y σ) H) (hD : va_D A0 (ws g ad y σ)) (hS : va_S A0 s.heap H locs) (hkd : kd (cl a) k = 3) (hty : tyx (cl a) k = 2) (h : xT y σ a k v x K) (hdg : decode cc pc = .ok (.lastore, 1))
    (kk : ∀ (σ1 : St) (H1 : Heap) (locs1 : List Loc), K σ1 → va_P D CL (ws g ad y σ1) H1 → va_D A0 (ws g ad y σ1) → va_S A0 s.heap H1 locs1 → W p l e R s m args below meth c H1 locs1 cells slots Q (F0 m (pc + 1) ls rest)) : W p l e R s m args below meth c H locs cells slots Q (F0 m pc ls (.long x :: .int v :: .ref (yP y a k) :: rest)) := by
  obtain ⟨i, rfl, hi, hn, hk⟩ := h
  obtain ⟨q0, hq, hne, he⟩ := row_at (g := g) (ad := ad) (y := y) (σ0 := σ) hkd (by decide) (by decide) hty
  refine klast G hP hD hS q0 2 he rfl hi hn hdg (fun H1 locs1 hP1 hD1 hS1 => ?_)
  have hw := ws_row (g := g) (ad := ad) (y := y) (σ := σ) (σ' := uB σ a k i x) hne hq rfl rowB.1 rowB.2
  rw [hty, hkd] at hw
  have hv : rwd ad y (uB σ a k i x) a k 3 = (yN y a k, .inr (.inl (vp_updL (sB σ a k) i x))) := by
    show (yN y a k, Sum.inr (Sum.inl (w2 σ.2.2.2.1 a k _ a k))) = _
    rw [w2_eq]; rfl
  rw [hv] at hw
  rw [hw] at hP1 hD1
  exact kk _ H1 locs1 hk hP1 hD1 hS1
theorem uqald {k t0 : Nat} {C : String} {v : Int32} {K : Nat → Prop} (G : GV l p s m args meth c y0 cc nL r0 g D sl A0) (hP : va_P D CL (ws g ad y σ) H) (hkd : kd (cl a) k = 4) (hty : tyx (cl a) k = t0) (ht : (TY g)[t0]? = some (g t0, .object C)) (h : xQ y a k v K) (hdg : decode cc pc = .ok (.aaload, 1))
    (kk : ∀ b : Nat, (∃ i, oa a i = some b) → K b → W p l e R s m args below meth c H locs cells slots Q (F0 m (pc + 1) ls (.ref (ad b) :: rest))) : W p l e R s m args below meth c H locs cells slots Q (F0 m pc ls (.int v :: .ref (yP y a k) :: rest)) := by
  obtain ⟨i, b, rfl, hi, hn, ho, hk⟩ := h
  obtain ⟨q0, hq, hne, he⟩ := row_at (g := g) (ad := ad) (y := y) (σ0 := σ) hkd (by decide) (by decide) hty
  refine kqald G hP q0 t0 he ht hi hn hdg ?_
  show W p l e R s m args below meth c H locs cells slots Q (F0 m (pc + 1) ls (va_rf ((oa a i).map ad) :: rest))
  rw [ho]
  exact kk b ⟨i, ho⟩ hk
theorem ualen {k t tk : Nat} {ty : FieldType} (G : GV l p s m args meth c y0 cc nL r0 g D sl A0) (hP : va_P D CL (ws g ad y σ) H) (hkd : kd (cl a) k = t) (h1 : 2 ≤ t) (h2 : t ≤ 4) (hty : tyx (cl a) k = tk) (ht : (TY g)[tk]? = some (g tk, ty)) (hdg : decode cc pc = .ok (.arraylength, 1))
    (kk : W p l e R s m args below meth c H locs cells slots Q (F0 m (pc + 1) ls (.int (nI (yN y a k)) :: rest))) : W p l e R s m args below meth c H locs cells slots Q (F0 m pc ls (.ref (yP y a k) :: rest)) := by
  obtain ⟨q0, hq, hne, he⟩ := row_at (g := g) (ad := ad) (y := y) (σ0 := σ) hkd h1 h2 hty
  exact kalen G hP q0 tk he ht hdg kk
theorem ucpy {k a2 k2 tk index : Nat} {ty : FieldType} {sp dp n : Int32} {K : St → Prop} (G : GV l p s m args meth c y0 cc nL r0 g D sl A0) (hP : va_P D CL (ws g ad y σ) H) (hD : va_D A0 (ws g ad y σ)) (hS : va_S A0 s.heap H locs) (hkd : kd (cl a) k = 2) (hty : tyx (cl a) k = tk) (hkd2 : kd (cl a2) k2 = 2) (hty2 : tyx (cl a2) k2 = tk) (ht : (TY g)[tk]? = some (g tk, ty)) (hprim : refKind ty = false) (h : xC y σ a k a2 k2 ty sp dp n K) (hsz : ls.size = nL)
    (ql : Cond.methodLink y0.cls index arraycopyName ∈ lw_ok) (qn : Cond.native arraycopyName ∈ lw_ok) (qs : Cond.static arraycopyName ∈ lw_ok) (qi : Cond.initialized "java/lang/System" ∈ lw_ok) (hfr : 1 ≤ R.frames) (hlo : (rest.map fun v => v.category).sum + (nativeFrameWords "java/lang/System" "arraycopy" 5 + 11) ≤ R.locals) (hdg : decode cc pc = .ok (.invokestatic index, 3))
    (kk : ∀ (σ1 : St) (H1 : Heap) (locs1 : List Loc), K σ1 → va_P D CL (ws g ad y σ1) H1 → va_D A0 (ws g ad y σ1) → va_S A0 s.heap H1 locs1 → W p l e R s m args below meth c H1 locs1 cells slots Q (F0 m (pc + 3) ls rest)) : W p l e R s m args below meth c H locs cells slots Q (F0 m pc ls (.int n :: .int dp :: .ref (yP y a2 k2) :: .int sp :: .ref (yP y a k) :: rest)) := by
  obtain ⟨i, j, t, rfl, rfl, rfl, h1, h2, h3, h4, hf, hk⟩ := h
  obtain ⟨q0, hq, hne, he⟩ := row_at (g := g) (ad := ad) (y := y) (σ0 := σ) hkd (by decide) (by decide) hty
  obtain ⟨q1, hq1, hne1, he1⟩ := row_at (g := g) (ad := ad) (y := y) (σ0 := σ) hkd2 (by decide) (by decide) hty2
  have ei : (nI i).toNatClampNeg = i := nI_clamp (by omega)
  have ej : (nI j).toNatClampNeg = j := nI_clamp (by omega)
  have et : (nI t).toNatClampNeg = t := nI_clamp (by omega)
  refine va_copyi (ty := ty) (n0 := yN y a k) (n1 := yN y a2 k2) (f := sA σ a k) (g := sA σ a2 k2) G.1 G.2.1 (G.2.2.1.trans hsz.symm) G.2.2.2.2.2.2.1 (G.2.2.2.2.2.1 _ ql) (G.2.2.2.2.2.1 _ qn) (G.2.2.2.2.2.1 _ qs) (G.2.2.2.2.2.1 _ qi) G.2.2.2.2.2.2.2.2.1 hP hD hS q0 q1 tk tk he he1 ht ht hprim (nI_pos (by omega)) (nI_pos (by omega)) (nI_pos (by omega)) (by rw [ei, et]; exact h1) (by rw [ej, et]; exact h2) (fun z hz => by rw [et] at hz; rw [ei]; exact hf z hz) hfr hlo hdg (fun H1 locs1 hP1 hD1 hS1 => ?_)
  rw [ei, ej, et] at hP1 hD1
  have hw := ws_row (g := g) (ad := ad) (y := y) (σ := σ) (σ' := uF σ a2 k2 (va_cpy (sA σ a k) (sA σ a2 k2) i j t)) hne1 hq1 rfl rowA.1 rowA.2
  rw [hty2, hkd2] at hw
  have hv : rwd ad y (uF σ a2 k2 (va_cpy (sA σ a k) (sA σ a2 k2) i j t)) a2 k2 2 = (yN y a2 k2, .inl (va_cpy (sA σ a k) (sA σ a2 k2) i j t)) := by
    show (yN y a2 k2, Sum.inl (w2 σ.2.2.1 a2 k2 _ a2 k2)) = _
    rw [w2_eq]
  rw [hv] at hw
  rw [hw] at hP1 hD1
  exact kk _ H1 locs1 hk hP1 hD1 hS1
theorem uifnull {o : Option Nat} {off : Int} {tgt : Nat} (hexec : p.tables.exec = Jvm.exec) (hb : c.code = cc) (hdg : decode cc pc = .ok (.ifnull off, 3)) (ht : (pc : Int) + off = (tgt : Int))
    (k1 : o = none → W p l e R s m args below meth c H locs cells slots Q (F0 m tgt ls rest)) (k2 : ∀ b, o = some b → W p l e R s m args below meth c H locs cells slots Q (F0 m (pc + 3) ls rest)) : W p l e R s m args below meth c H locs cells slots Q (F0 m pc ls (va_rf (o.map ad) :: rest)) := by
  cases o with
  | none => exact lv_ifnullN hexec hb hdg ht (k1 rfl)
  | some b => exact lv_ifnull hexec hb hdg (k2 b rfl)
theorem uifnonnull {o : Option Nat} {off : Int} {tgt : Nat} (hexec : p.tables.exec = Jvm.exec) (hb : c.code = cc) (hdg : decode cc pc = .ok (.ifnonnull off, 3)) (ht : (pc : Int) + off = (tgt : Int))
    (k2 : ∀ b, o = some b → W p l e R s m args below meth c H locs cells slots Q (F0 m tgt ls rest)) (k1 : o = none → W p l e R s m args below meth c H locs cells slots Q (F0 m (pc + 3) ls rest)) : W p l e R s m args below meth c H locs cells slots Q (F0 m pc ls (va_rf (o.map ad) :: rest)) := by
  cases o with
  | none => exact lv_ifnonnullN hexec hb hdg (k1 rfl)
  | some b => exact lv_ifnonnull hexec hb hdg ht (k2 b rfl)
end UF
section UC
variable {p : Program} {l : Launch} {e : Env} {R : Room} {s : State} {m : MethodId} {args : Array Value} {below : List Frame} {meth : Method} {c : Code} {H : Heap} {locs : List Loc} {cells slots : Nat} {Q : State → Prop}
variable {cc : ByteArray} {pc nL : Nat} {ls : Array Slot} {rest st : List Value} {A0 : Nat → Prop} {y0 y1 : MethodName} {bytes : ByteArray} {maxL index : Nat} {ret r0 : Option FieldType} {rm : Room} {g : Nat → ClassId} {D : va_G} {sl : List SL} {As : List Value} {ad : Nat → Nat} {y : Ly} {σ : St} {b ci : Nat} {q : vw_C}
theorem ucVi {n : Nat} {Post : St → Int32 → Prop} (G : GV l p s m args meth c y0 cc nL r0 g D sl A0) (hP : va_P D CL (ws g ad y σ) H) (hD : va_D A0 (ws g ad y σ)) (hS : va_S A0 s.heap H locs)
    (hM : Met l y1 (mw y1 bytes maxL ret) rm (PC g D [] (.ref (ad b) :: As) H.size (ws g ad y σ)) (va_Qi (fun (r : Int32) (u : St) => Post u r) (QW D (va_A (ws g ad y σ) H.size) (fun u => ws g ad y u)) (va_A (ws g ad y σ) H.size)) 0 0 (va_A (ws g ad y σ) H.size))
    (w : CWv y1 bytes maxL ret n ∧ Cond.instanceMethod y1 ∈ lw_ok ∧ Cond.selects y1.cls y1 y1 ∈ lw_ok) (hl : Cond.methodLink y0.cls index y1 ∈ lw_ok) (hR : rm.frames + 1 ≤ R.frames ∧ 8 + (maxL + 11) + rm.locals ≤ R.locals) (hrc : rm.cells = 0) (hrs : rm.slots = 0) (hcl : cl b = ci) (hc : CL[ci]? = some q) (hqc : q.1 = y1.cls) (hsz : ls.size = nL) (hst : st = As.reverse ++ .ref (ad b) :: rest) (hroom : (rest.map fun v => v.category).sum ≤ 8) (hn : As.length = n) (hf : cells + 0 ≤ R.cells ∧ slots + 0 ≤ R.slots) (hdg : decode cc pc = .ok (.invokevirtual index, 3))
    (kk : ∀ (r : Int32) (σ1 : St) (H1 : Heap) (locs1 : List Loc), Post σ1 r → va_P D CL (ws g ad y σ1) H1 → va_D A0 (ws g ad y σ1) → va_S A0 s.heap H1 locs1 → W p l e R s m args below meth c H1 locs1 cells slots Q (F0 m (pc + 3) ls (.int r :: rest))) : W p l e R s m args below meth c H locs cells slots Q (F0 m pc ls st) := by
  have h99 : cl b ≠ 99 := fun z => by rw [hcl] at z; subst z; simp at hc
  obtain ⟨q0, -, he⟩ := ws_at (g := g) (ad := ad) (y := y) (σ := σ) (mem_obj h99)
  rw [clv_o hcl] at he
  refine kEi (wr := []) G (kV (As := As) (rest := rest) G hP hD hS (List.range cL.length) ws_all cL_nd hM w hl hrc hrs hR (fun _ h => absurd h List.not_mem_nil) q0 hc hqc he hsz hst hroom hn hf hdg) hP hD hS (List.range cL.length) [] ws_all rfl rfl rfl (fun r u H1 locs1 hw hP1 hD1 hS1 hz => ?_)
  exact kk r u H1 locs1 hw hP1 hD1 hS1
theorem ucVv {n : Nat} {Post : St →  Prop} (G : GV l p s m args meth c y0 cc nL r0 g D sl A0) (hP : va_P D CL (ws g ad y σ) H) (hD : va_D A0 (ws g ad y σ)) (hS : va_S A0 s.heap H locs)
    (hM : Met l y1 (mw y1 bytes maxL ret) rm (PC g D [] (.ref (ad b) :: As) H.size (ws g ad y σ)) (va_Qv (fun u : St => Post u) (QW D (va_A (ws g ad y σ) H.size) (fun u => ws g ad y u)) (va_A (ws g ad y σ) H.size)) 0 0 (va_A (ws g ad y σ) H.size))
    (w : CWv y1 bytes maxL ret n ∧ Cond.instanceMethod y1 ∈ lw_ok ∧ Cond.selects y1.cls y1 y1 ∈ lw_ok) (hl : Cond.methodLink y0.cls index y1 ∈ lw_ok) (hR : rm.frames + 1 ≤ R.frames ∧ 8 + (maxL + 11) + rm.locals ≤ R.locals) (hrc : rm.cells = 0) (hrs : rm.slots = 0) (hcl : cl b = ci) (hc : CL[ci]? = some q) (hqc : q.1 = y1.cls) (hsz : ls.size = nL) (hst : st = As.reverse ++ .ref (ad b) :: rest) (hroom : (rest.map fun v => v.category).sum ≤ 8) (hn : As.length = n) (hf : cells + 0 ≤ R.cells ∧ slots + 0 ≤ R.slots) (hdg : decode cc pc = .ok (.invokevirtual index, 3))
    (kk : ∀ (σ1 : St) (H1 : Heap) (locs1 : List Loc), Post σ1 → va_P D CL (ws g ad y σ1) H1 → va_D A0 (ws g ad y σ1) → va_S A0 s.heap H1 locs1 → W p l e R s m args below meth c H1 locs1 cells slots Q (F0 m (pc + 3) ls (rest))) : W p l e R s m args below meth c H locs cells slots Q (F0 m pc ls st) := by
  have h99 : cl b ≠ 99 := fun z => by rw [hcl] at z; subst z; simp at hc
  obtain ⟨q0, -, he⟩ := ws_at (g := g) (ad := ad) (y := y) (σ := σ) (mem_obj h99)
  rw [clv_o hcl] at he
  refine kEv (wr := []) G (kV (As := As) (rest := rest) G hP hD hS (List.range cL.length) ws_all cL_nd hM w hl hrc hrs hR (fun _ h => absurd h List.not_mem_nil) q0 hc hqc he hsz hst hroom hn hf hdg) hP hD hS (List.range cL.length) [] ws_all rfl rfl rfl (fun u H1 locs1 hw hP1 hD1 hS1 hz => ?_)
  exact kk u H1 locs1 hw hP1 hD1 hS1
theorem ucVl {n : Nat} {Post : St → Int64 → Prop} (G : GV l p s m args meth c y0 cc nL r0 g D sl A0) (hP : va_P D CL (ws g ad y σ) H) (hD : va_D A0 (ws g ad y σ)) (hS : va_S A0 s.heap H locs)
    (hM : Met l y1 (mw y1 bytes maxL ret) rm (PC g D [] (.ref (ad b) :: As) H.size (ws g ad y σ)) (va_Ql (fun (r : Int64) (u : St) => Post u r) (QW D (va_A (ws g ad y σ) H.size) (fun u => ws g ad y u)) (va_A (ws g ad y σ) H.size)) 0 0 (va_A (ws g ad y σ) H.size))
    (w : CWv y1 bytes maxL ret n ∧ Cond.instanceMethod y1 ∈ lw_ok ∧ Cond.selects y1.cls y1 y1 ∈ lw_ok) (hl : Cond.methodLink y0.cls index y1 ∈ lw_ok) (hR : rm.frames + 1 ≤ R.frames ∧ 8 + (maxL + 11) + rm.locals ≤ R.locals) (hrc : rm.cells = 0) (hrs : rm.slots = 0) (hcl : cl b = ci) (hc : CL[ci]? = some q) (hqc : q.1 = y1.cls) (hsz : ls.size = nL) (hst : st = As.reverse ++ .ref (ad b) :: rest) (hroom : (rest.map fun v => v.category).sum ≤ 8) (hn : As.length = n) (hf : cells + 0 ≤ R.cells ∧ slots + 0 ≤ R.slots) (hdg : decode cc pc = .ok (.invokevirtual index, 3))
    (kk : ∀ (r : Int64) (σ1 : St) (H1 : Heap) (locs1 : List Loc), Post σ1 r → va_P D CL (ws g ad y σ1) H1 → va_D A0 (ws g ad y σ1) → va_S A0 s.heap H1 locs1 → W p l e R s m args below meth c H1 locs1 cells slots Q (F0 m (pc + 3) ls (.long r :: rest))) : W p l e R s m args below meth c H locs cells slots Q (F0 m pc ls st) := by
  have h99 : cl b ≠ 99 := fun z => by rw [hcl] at z; subst z; simp at hc
  obtain ⟨q0, -, he⟩ := ws_at (g := g) (ad := ad) (y := y) (σ := σ) (mem_obj h99)
  rw [clv_o hcl] at he
  refine kEl (wr := []) G (kV (As := As) (rest := rest) G hP hD hS (List.range cL.length) ws_all cL_nd hM w hl hrc hrs hR (fun _ h => absurd h List.not_mem_nil) q0 hc hqc he hsz hst hroom hn hf hdg) hP hD hS (List.range cL.length) [] ws_all rfl rfl rfl (fun r u H1 locs1 hw hP1 hD1 hS1 hz => ?_)
  exact kk r u H1 locs1 hw hP1 hD1 hS1
theorem ucVq {n : Nat} {Post : St → Option Nat → Prop} (G : GV l p s m args meth c y0 cc nL r0 g D sl A0) (hP : va_P D CL (ws g ad y σ) H) (hD : va_D A0 (ws g ad y σ)) (hS : va_S A0 s.heap H locs)
    (hM : Met l y1 (mw y1 bytes maxL ret) rm (PC g D [] (.ref (ad b) :: As) H.size (ws g ad y σ)) (va_Qq (fun (r : Option Nat) (u : St) => ∃ o : Option Nat, r = o.map ad ∧ Post u o) (QW D (va_A (ws g ad y σ) H.size) (fun u => ws g ad y u)) (va_A (ws g ad y σ) H.size)) 0 0 (va_A (ws g ad y σ) H.size))
    (w : CWv y1 bytes maxL ret n ∧ Cond.instanceMethod y1 ∈ lw_ok ∧ Cond.selects y1.cls y1 y1 ∈ lw_ok) (hl : Cond.methodLink y0.cls index y1 ∈ lw_ok) (hR : rm.frames + 1 ≤ R.frames ∧ 8 + (maxL + 11) + rm.locals ≤ R.locals) (hrc : rm.cells = 0) (hrs : rm.slots = 0) (hcl : cl b = ci) (hc : CL[ci]? = some q) (hqc : q.1 = y1.cls) (hsz : ls.size = nL) (hst : st = As.reverse ++ .ref (ad b) :: rest) (hroom : (rest.map fun v => v.category).sum ≤ 8) (hn : As.length = n) (hf : cells + 0 ≤ R.cells ∧ slots + 0 ≤ R.slots) (hdg : decode cc pc = .ok (.invokevirtual index, 3))
    (kk : ∀ (r : Option Nat) (σ1 : St) (H1 : Heap) (locs1 : List Loc), Post σ1 r → va_P D CL (ws g ad y σ1) H1 → va_D A0 (ws g ad y σ1) → va_S A0 s.heap H1 locs1 → W p l e R s m args below meth c H1 locs1 cells slots Q (F0 m (pc + 3) ls (va_rf (r.map ad) :: rest))) : W p l e R s m args below meth c H locs cells slots Q (F0 m pc ls st) := by
  have h99 : cl b ≠ 99 := fun z => by rw [hcl] at z; subst z; simp at hc
  obtain ⟨q0, -, he⟩ := ws_at (g := g) (ad := ad) (y := y) (σ := σ) (mem_obj h99)
  rw [clv_o hcl] at he
  refine kEq (wr := []) G (kV (As := As) (rest := rest) G hP hD hS (List.range cL.length) ws_all cL_nd hM w hl hrc hrs hR (fun _ h => absurd h List.not_mem_nil) q0 hc hqc he hsz hst hroom hn hf hdg) hP hD hS (List.range cL.length) [] ws_all rfl rfl rfl (fun r u H1 locs1 hw hP1 hD1 hS1 hz => ?_)
  obtain ⟨o, rfl, hw⟩ := hw
  exact kk o u H1 locs1 hw hP1 hD1 hS1
theorem ucSi {n : Nat} {Post : St → Int32 → Prop} (G : GV l p s m args meth c y0 cc nL r0 g D sl A0) (hP : va_P D CL (ws g ad y σ) H) (hD : va_D A0 (ws g ad y σ)) (hS : va_S A0 s.heap H locs)
    (hM : Met l y1 (mw y1 bytes maxL ret) rm (PC g D [] As H.size (ws g ad y σ)) (va_Qi (fun (r : Int32) (u : St) => Post u r) (QW D (va_A (ws g ad y σ) H.size) (fun u => ws g ad y u)) (va_A (ws g ad y σ) H.size)) 0 0 (va_A (ws g ad y σ) H.size))
    (w : CWv y1 bytes maxL ret n ∧ Cond.static y1 ∈ lw_ok) (hl : Cond.methodLink y0.cls index y1 ∈ lw_ok) (hR : rm.frames + 1 ≤ R.frames ∧ 8 + (maxL + 11) + rm.locals ≤ R.locals) (hrc : rm.cells = 0) (hrs : rm.slots = 0) (hsz : ls.size = nL) (hst : st = As.reverse ++ rest) (hroom : (rest.map fun v => v.category).sum ≤ 8) (hn : As.length = n) (hf : cells + 0 ≤ R.cells ∧ slots + 0 ≤ R.slots) (hdg : decode cc pc = .ok (.invokestatic index, 3))
    (kk : ∀ (r : Int32) (σ1 : St) (H1 : Heap) (locs1 : List Loc), Post σ1 r → va_P D CL (ws g ad y σ1) H1 → va_D A0 (ws g ad y σ1) → va_S A0 s.heap H1 locs1 → W p l e R s m args below meth c H1 locs1 cells slots Q (F0 m (pc + 3) ls (.int r :: rest))) : W p l e R s m args below meth c H locs cells slots Q (F0 m pc ls st) := by
  refine kEi (wr := []) G (kS (As := As) (rest := rest) G hP hD hS (List.range cL.length) ws_all cL_nd hM w hl hrc hrs hR (fun _ h => absurd h List.not_mem_nil) hsz hst hroom hn hf hdg) hP hD hS (List.range cL.length) [] ws_all rfl rfl rfl (fun r u H1 locs1 hw hP1 hD1 hS1 hz => ?_)
  exact kk r u H1 locs1 hw hP1 hD1 hS1
theorem ucSv {n : Nat} {Post : St →  Prop} (G : GV l p s m args meth c y0 cc nL r0 g D sl A0) (hP : va_P D CL (ws g ad y σ) H) (hD : va_D A0 (ws g ad y σ)) (hS : va_S A0 s.heap H locs)
    (hM : Met l y1 (mw y1 bytes maxL ret) rm (PC g D [] As H.size (ws g ad y σ)) (va_Qv (fun u : St => Post u) (QW D (va_A (ws g ad y σ) H.size) (fun u => ws g ad y u)) (va_A (ws g ad y σ) H.size)) 0 0 (va_A (ws g ad y σ) H.size))
    (w : CWv y1 bytes maxL ret n ∧ Cond.static y1 ∈ lw_ok) (hl : Cond.methodLink y0.cls index y1 ∈ lw_ok) (hR : rm.frames + 1 ≤ R.frames ∧ 8 + (maxL + 11) + rm.locals ≤ R.locals) (hrc : rm.cells = 0) (hrs : rm.slots = 0) (hsz : ls.size = nL) (hst : st = As.reverse ++ rest) (hroom : (rest.map fun v => v.category).sum ≤ 8) (hn : As.length = n) (hf : cells + 0 ≤ R.cells ∧ slots + 0 ≤ R.slots) (hdg : decode cc pc = .ok (.invokestatic index, 3))
    (kk : ∀ (σ1 : St) (H1 : Heap) (locs1 : List Loc), Post σ1 → va_P D CL (ws g ad y σ1) H1 → va_D A0 (ws g ad y σ1) → va_S A0 s.heap H1 locs1 → W p l e R s m args below meth c H1 locs1 cells slots Q (F0 m (pc + 3) ls (rest))) : W p l e R s m args below meth c H locs cells slots Q (F0 m pc ls st) := by
  refine kEv (wr := []) G (kS (As := As) (rest := rest) G hP hD hS (List.range cL.length) ws_all cL_nd hM w hl hrc hrs hR (fun _ h => absurd h List.not_mem_nil) hsz hst hroom hn hf hdg) hP hD hS (List.range cL.length) [] ws_all rfl rfl rfl (fun u H1 locs1 hw hP1 hD1 hS1 hz => ?_)
  exact kk u H1 locs1 hw hP1 hD1 hS1
theorem ucSl {n : Nat} {Post : St → Int64 → Prop} (G : GV l p s m args meth c y0 cc nL r0 g D sl A0) (hP : va_P D CL (ws g ad y σ) H) (hD : va_D A0 (ws g ad y σ)) (hS : va_S A0 s.heap H locs)
    (hM : Met l y1 (mw y1 bytes maxL ret) rm (PC g D [] As H.size (ws g ad y σ)) (va_Ql (fun (r : Int64) (u : St) => Post u r) (QW D (va_A (ws g ad y σ) H.size) (fun u => ws g ad y u)) (va_A (ws g ad y σ) H.size)) 0 0 (va_A (ws g ad y σ) H.size))
    (w : CWv y1 bytes maxL ret n ∧ Cond.static y1 ∈ lw_ok) (hl : Cond.methodLink y0.cls index y1 ∈ lw_ok) (hR : rm.frames + 1 ≤ R.frames ∧ 8 + (maxL + 11) + rm.locals ≤ R.locals) (hrc : rm.cells = 0) (hrs : rm.slots = 0) (hsz : ls.size = nL) (hst : st = As.reverse ++ rest) (hroom : (rest.map fun v => v.category).sum ≤ 8) (hn : As.length = n) (hf : cells + 0 ≤ R.cells ∧ slots + 0 ≤ R.slots) (hdg : decode cc pc = .ok (.invokestatic index, 3))
    (kk : ∀ (r : Int64) (σ1 : St) (H1 : Heap) (locs1 : List Loc), Post σ1 r → va_P D CL (ws g ad y σ1) H1 → va_D A0 (ws g ad y σ1) → va_S A0 s.heap H1 locs1 → W p l e R s m args below meth c H1 locs1 cells slots Q (F0 m (pc + 3) ls (.long r :: rest))) : W p l e R s m args below meth c H locs cells slots Q (F0 m pc ls st) := by
  refine kEl (wr := []) G (kS (As := As) (rest := rest) G hP hD hS (List.range cL.length) ws_all cL_nd hM w hl hrc hrs hR (fun _ h => absurd h List.not_mem_nil) hsz hst hroom hn hf hdg) hP hD hS (List.range cL.length) [] ws_all rfl rfl rfl (fun r u H1 locs1 hw hP1 hD1 hS1 hz => ?_)
  exact kk r u H1 locs1 hw hP1 hD1 hS1
theorem ucSq {n : Nat} {Post : St → Option Nat → Prop} (G : GV l p s m args meth c y0 cc nL r0 g D sl A0) (hP : va_P D CL (ws g ad y σ) H) (hD : va_D A0 (ws g ad y σ)) (hS : va_S A0 s.heap H locs)
    (hM : Met l y1 (mw y1 bytes maxL ret) rm (PC g D [] As H.size (ws g ad y σ)) (va_Qq (fun (r : Option Nat) (u : St) => ∃ o : Option Nat, r = o.map ad ∧ Post u o) (QW D (va_A (ws g ad y σ) H.size) (fun u => ws g ad y u)) (va_A (ws g ad y σ) H.size)) 0 0 (va_A (ws g ad y σ) H.size))
    (w : CWv y1 bytes maxL ret n ∧ Cond.static y1 ∈ lw_ok) (hl : Cond.methodLink y0.cls index y1 ∈ lw_ok) (hR : rm.frames + 1 ≤ R.frames ∧ 8 + (maxL + 11) + rm.locals ≤ R.locals) (hrc : rm.cells = 0) (hrs : rm.slots = 0) (hsz : ls.size = nL) (hst : st = As.reverse ++ rest) (hroom : (rest.map fun v => v.category).sum ≤ 8) (hn : As.length = n) (hf : cells + 0 ≤ R.cells ∧ slots + 0 ≤ R.slots) (hdg : decode cc pc = .ok (.invokestatic index, 3))
    (kk : ∀ (r : Option Nat) (σ1 : St) (H1 : Heap) (locs1 : List Loc), Post σ1 r → va_P D CL (ws g ad y σ1) H1 → va_D A0 (ws g ad y σ1) → va_S A0 s.heap H1 locs1 → W p l e R s m args below meth c H1 locs1 cells slots Q (F0 m (pc + 3) ls (va_rf (r.map ad) :: rest))) : W p l e R s m args below meth c H locs cells slots Q (F0 m pc ls st) := by
  refine kEq (wr := []) G (kS (As := As) (rest := rest) G hP hD hS (List.range cL.length) ws_all cL_nd hM w hl hrc hrs hR (fun _ h => absurd h List.not_mem_nil) hsz hst hroom hn hf hdg) hP hD hS (List.range cL.length) [] ws_all rfl rfl rfl (fun r u H1 locs1 hw hP1 hD1 hS1 hz => ?_)
  obtain ⟨o, rfl, hw⟩ := hw
  exact kk o u H1 locs1 hw hP1 hD1 hS1
end UC
theorem lk_0_2 {a : Nat} (h : cl a = 0) : cl (lk a 2) = 5 := by
  have h0 : ∀ z, z < 94 → cl z = 0 → cl (lk z 2) = 5 := by decide +kernel
  exact h0 a (cl_lt (by rw [h]; decide)) h
theorem lk_1_3 {a : Nat} (h : cl a = 1) : cl (lk a 3) = 3 := by
  have h0 : ∀ z, z < 94 → cl z = 1 → cl (lk z 3) = 3 := by decide +kernel
  exact h0 a (cl_lt (by rw [h]; decide)) h
theorem lk_1_4 {a : Nat} (h : cl a = 1) : cl (lk a 4) = 5 := by
  have h0 : ∀ z, z < 94 → cl z = 1 → cl (lk z 4) = 5 := by decide +kernel
  exact h0 a (cl_lt (by rw [h]; decide)) h
theorem lk_1_5 {a : Nat} (h : cl a = 1) : cl (lk a 5) = 0 := by
  have h0 : ∀ z, z < 94 → cl z = 1 → cl (lk z 5) = 0 := by decide +kernel
  exact h0 a (cl_lt (by rw [h]; decide)) h
theorem lk_2_10 {a : Nat} (h : cl a = 2) : cl (lk a 10) = 3 := by
  have h0 : ∀ z, z < 94 → cl z = 2 → cl (lk z 10) = 3 := by decide +kernel
  exact h0 a (cl_lt (by rw [h]; decide)) h
theorem lk_2_11 {a : Nat} (h : cl a = 2) : cl (lk a 11) = 3 := by
  have h0 : ∀ z, z < 94 → cl z = 2 → cl (lk z 11) = 3 := by decide +kernel
  exact h0 a (cl_lt (by rw [h]; decide)) h
theorem lk_4_0 {a : Nat} (h : cl a = 4) : cl (lk a 0) = 9 := by
  have h0 : ∀ z, z < 94 → cl z = 4 → cl (lk z 0) = 9 := by decide +kernel
  exact h0 a (cl_lt (by rw [h]; decide)) h
theorem lk_4_1 {a : Nat} (h : cl a = 4) : cl (lk a 1) = 2 := by
  have h0 : ∀ z, z < 94 → cl z = 4 → cl (lk z 1) = 2 := by decide +kernel
  exact h0 a (cl_lt (by rw [h]; decide)) h
theorem lk_4_14 {a : Nat} (h : cl a = 4) : cl (lk a 14) = 1 := by
  have h0 : ∀ z, z < 94 → cl z = 4 → cl (lk z 14) = 1 := by decide +kernel
  exact h0 a (cl_lt (by rw [h]; decide)) h
theorem lk_4_15 {a : Nat} (h : cl a = 4) : cl (lk a 15) = 5 := by
  have h0 : ∀ z, z < 94 → cl z = 4 → cl (lk z 15) = 5 := by decide +kernel
  exact h0 a (cl_lt (by rw [h]; decide)) h
theorem lk_5_0 {a : Nat} (h : cl a = 5) : cl (lk a 0) = 3 := by
  have h0 : ∀ z, z < 94 → cl z = 5 → cl (lk z 0) = 3 := by decide +kernel
  exact h0 a (cl_lt (by rw [h]; decide)) h
theorem lk_5_1 {a : Nat} (h : cl a = 5) : cl (lk a 1) = 3 := by
  have h0 : ∀ z, z < 94 → cl z = 5 → cl (lk z 1) = 3 := by decide +kernel
  exact h0 a (cl_lt (by rw [h]; decide)) h
theorem lk_5_2 {a : Nat} (h : cl a = 5) : cl (lk a 2) = 3 := by
  have h0 : ∀ z, z < 94 → cl z = 5 → cl (lk z 2) = 3 := by decide +kernel
  exact h0 a (cl_lt (by rw [h]; decide)) h
theorem lk_5_3 {a : Nat} (h : cl a = 5) : cl (lk a 3) = 3 := by
  have h0 : ∀ z, z < 94 → cl z = 5 → cl (lk z 3) = 3 := by decide +kernel
  exact h0 a (cl_lt (by rw [h]; decide)) h
theorem lk_5_5 {a : Nat} (h : cl a = 5) : cl (lk a 5) = 3 := by
  have h0 : ∀ z, z < 94 → cl z = 5 → cl (lk z 5) = 3 := by decide +kernel
  exact h0 a (cl_lt (by rw [h]; decide)) h
theorem lk_6_2 {a : Nat} (h : cl a = 6) : cl (lk a 2) = 5 := by
  have h0 : ∀ z, z < 94 → cl z = 6 → cl (lk z 2) = 5 := by decide +kernel
  exact h0 a (cl_lt (by rw [h]; decide)) h
theorem lk_6_3 {a : Nat} (h : cl a = 6) : cl (lk a 3) = 8 := by
  have h0 : ∀ z, z < 94 → cl z = 6 → cl (lk z 3) = 8 := by decide +kernel
  exact h0 a (cl_lt (by rw [h]; decide)) h
theorem lk_6_13 {a : Nat} (h : cl a = 6) : cl (lk a 13) = 3 := by
  have h0 : ∀ z, z < 94 → cl z = 6 → cl (lk z 13) = 3 := by decide +kernel
  exact h0 a (cl_lt (by rw [h]; decide)) h
theorem lk_6_14 {a : Nat} (h : cl a = 6) : cl (lk a 14) = 3 := by
  have h0 : ∀ z, z < 94 → cl z = 6 → cl (lk z 14) = 3 := by decide +kernel
  exact h0 a (cl_lt (by rw [h]; decide)) h
theorem lk_8_4 {a : Nat} (h : cl a = 8) : cl (lk a 4) = 5 := by
  have h0 : ∀ z, z < 94 → cl z = 8 → cl (lk z 4) = 5 := by decide +kernel
  exact h0 a (cl_lt (by rw [h]; decide)) h
theorem lk_9_0 {a : Nat} (h : cl a = 9) : cl (lk a 0) = 5 := by
  have h0 : ∀ z, z < 94 → cl z = 9 → cl (lk z 0) = 5 := by decide +kernel
  exact h0 a (cl_lt (by rw [h]; decide)) h
theorem lk_9_8 {a : Nat} (h : cl a = 9) : cl (lk a 8) = 3 := by
  have h0 : ∀ z, z < 94 → cl z = 9 → cl (lk z 8) = 3 := by decide +kernel
  exact h0 a (cl_lt (by rw [h]; decide)) h
theorem lk_9_9 {a : Nat} (h : cl a = 9) : cl (lk a 9) = 3 := by
  have h0 : ∀ z, z < 94 → cl z = 9 → cl (lk z 9) = 3 := by decide +kernel
  exact h0 a (cl_lt (by rw [h]; decide)) h
theorem lk_9_10 {a : Nat} (h : cl a = 9) : cl (lk a 10) = 3 := by
  have h0 : ∀ z, z < 94 → cl z = 9 → cl (lk z 10) = 3 := by decide +kernel
  exact h0 a (cl_lt (by rw [h]; decide)) h
theorem lk_9_11 {a : Nat} (h : cl a = 9) : cl (lk a 11) = 3 := by
  have h0 : ∀ z, z < 94 → cl z = 9 → cl (lk z 11) = 3 := by decide +kernel
  exact h0 a (cl_lt (by rw [h]; decide)) h
theorem lk_9_12 {a : Nat} (h : cl a = 9) : cl (lk a 12) = 3 := by
  have h0 : ∀ z, z < 94 → cl z = 9 → cl (lk z 12) = 3 := by decide +kernel
  exact h0 a (cl_lt (by rw [h]; decide)) h
theorem lk_9_13 {a : Nat} (h : cl a = 9) : cl (lk a 13) = 3 := by
  have h0 : ∀ z, z < 94 → cl z = 9 → cl (lk z 13) = 3 := by decide +kernel
  exact h0 a (cl_lt (by rw [h]; decide)) h
theorem lk_9_14 {a : Nat} (h : cl a = 9) : cl (lk a 14) = 3 := by
  have h0 : ∀ z, z < 94 → cl z = 9 → cl (lk z 14) = 3 := by decide +kernel
  exact h0 a (cl_lt (by rw [h]; decide)) h
theorem lk_10_0 {a : Nat} (h : cl a = 10) : cl (lk a 0) = 3 := by
  have h0 : ∀ z, z < 94 → cl z = 10 → cl (lk z 0) = 3 := by decide +kernel
  exact h0 a (cl_lt (by rw [h]; decide)) h
theorem lk_10_1 {a : Nat} (h : cl a = 10) : cl (lk a 1) = 5 := by
  have h0 : ∀ z, z < 94 → cl z = 10 → cl (lk z 1) = 5 := by decide +kernel
  exact h0 a (cl_lt (by rw [h]; decide)) h
theorem lk_11_0 {a : Nat} (h : cl a = 11) : cl (lk a 0) = 8 := by
  have h0 : ∀ z, z < 94 → cl z = 11 → cl (lk z 0) = 8 := by decide +kernel
  exact h0 a (cl_lt (by rw [h]; decide)) h
theorem lk_11_1 {a : Nat} (h : cl a = 11) : cl (lk a 1) = 6 := by
  have h0 : ∀ z, z < 94 → cl z = 11 → cl (lk z 1) = 6 := by decide +kernel
  exact h0 a (cl_lt (by rw [h]; decide)) h
theorem lk_11_2 {a : Nat} (h : cl a = 11) : cl (lk a 2) = 0 := by
  have h0 : ∀ z, z < 94 → cl z = 11 → cl (lk z 2) = 0 := by decide +kernel
  exact h0 a (cl_lt (by rw [h]; decide)) h
theorem lk_11_3 {a : Nat} (h : cl a = 11) : cl (lk a 3) = 1 := by
  have h0 : ∀ z, z < 94 → cl z = 11 → cl (lk z 3) = 1 := by decide +kernel
  exact h0 a (cl_lt (by rw [h]; decide)) h
theorem lk_11_4 {a : Nat} (h : cl a = 11) : cl (lk a 4) = 10 := by
  have h0 : ∀ z, z < 94 → cl z = 11 → cl (lk z 4) = 10 := by decide +kernel
  exact h0 a (cl_lt (by rw [h]; decide)) h
theorem lk_14_48 {a : Nat} (h : cl a = 14) : cl (lk a 48) = 15 := by
  have h0 : ∀ z, z < 94 → cl z = 14 → cl (lk z 48) = 15 := by decide +kernel
  exact h0 a (cl_lt (by rw [h]; decide)) h
theorem oa_11 {a b : Nat} (h : cl a = 11) (ho : ∃ i, oa a i = some b) : cl b = 4 := by
  obtain ⟨i, ho⟩ := ho
  have h0 : ∀ z, z < 94 → cl z = 11 → ∀ i, i < 4 → ∀ b, b < 94 → oa z i = some b → cl b = 4 := by decide +kernel
  have ha := cl_lt (a := a) (by rw [h]; decide)
  have hi : i < 4 := by
    apply Decidable.byContradiction
    intro q
    unfold oa at ho
    rw [h] at ho
    simp at ho
    omega
  have hb : b < 94 := by
    have h1 : ∀ z, z < 94 → ∀ i, i < 4 → oa z i = none ∨ ∃ b, b < 94 ∧ oa z i = some b := by decide +kernel
    rcases h1 a ha i hi with e | ⟨b', hb', e⟩
    · rw [e] at ho; cases ho
    · rw [e] at ho; injection ho with ho; rw [← ho]; exact hb'
  exact h0 a ha h i hi b hb ho
theorem oa_4 {a b : Nat} (h : cl a = 4) (ho : ∃ i, oa a i = some b) : cl b = 7 := by
  obtain ⟨i, ho⟩ := ho
  have h0 : ∀ z, z < 94 → cl z = 4 → ∀ i, i < 4 → ∀ b, b < 94 → oa z i = some b → cl b = 7 := by decide +kernel
  have ha := cl_lt (a := a) (by rw [h]; decide)
  have hi : i < 4 := by
    apply Decidable.byContradiction
    intro q
    unfold oa at ho
    rw [h] at ho
    simp at ho
    omega
  have hb : b < 94 := by
    have h1 : ∀ z, z < 94 → ∀ i, i < 4 → oa z i = none ∨ ∃ b, b < 94 ∧ oa z i = some b := by decide +kernel
    rcases h1 a ha i hi with e | ⟨b', hb', e⟩
    · rw [e] at ho; cases ho
    · rw [e] at ho; injection ho with ho; rw [← ho]; exact hb'
  exact h0 a ha h i hi b hb ho
theorem oa_14 {a b : Nat} (h : cl a = 14) (ho : ∃ i, oa a i = some b) : cl b = 13 := by
  obtain ⟨i, ho⟩ := ho
  have h0 : ∀ z, z < 94 → cl z = 14 → ∀ i, i < 4 → ∀ b, b < 94 → oa z i = some b → cl b = 13 := by decide +kernel
  have ha := cl_lt (a := a) (by rw [h]; decide)
  have hi : i < 4 := by
    apply Decidable.byContradiction
    intro q
    unfold oa at ho
    rw [h] at ho
    simp at ho
    omega
  have hb : b < 94 := by
    have h1 : ∀ z, z < 94 → ∀ i, i < 4 → oa z i = none ∨ ∃ b, b < 94 ∧ oa z i = some b := by decide +kernel
    rcases h1 a ha i hi with e | ⟨b', hb', e⟩
    · rw [e] at ho; cases ho
    · rw [e] at ho; injection ho with ho; rw [← ho]; exact hb'
  exact h0 a ha h i hi b hb ho
theorem oa_13 {a b : Nat} (h : cl a = 13) (ho : ∃ i, oa a i = some b) : cl b = 12 := by
  obtain ⟨i, ho⟩ := ho
  have h0 : ∀ z, z < 94 → cl z = 13 → ∀ i, i < 4 → ∀ b, b < 94 → oa z i = some b → cl b = 12 := by decide +kernel
  have ha := cl_lt (a := a) (by rw [h]; decide)
  have hi : i < 4 := by
    apply Decidable.byContradiction
    intro q
    unfold oa at ho
    rw [h] at ho
    simp at ho
    omega
  have hb : b < 94 := by
    have h1 : ∀ z, z < 94 → ∀ i, i < 4 → oa z i = none ∨ ∃ b, b < 94 ∧ oa z i = some b := by decide +kernel
    rcases h1 a ha i hi with e | ⟨b', hb', e⟩
    · rw [e] at ho; cases ho
    · rw [e] at ho; injection ho with ho; rw [← ho]; exact hb'
  exact h0 a ha h i hi b hb ho
