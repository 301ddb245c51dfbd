/-! THE FIRST RULE, letter by letter, token by token -/
def rB : Nat → Int32 := fun i => (sByt.getD 0 []).getD i 0
def rB2 : Nat → Int32 := fun i => (sByt.getD 0 [] ++ [32, 32, 32, 32]).getD i 0
def tcl : Nat → Int32 := fun k => ([7, 13, 43, 2, 42, 13, 59, 8, 13, 59, 9, 13, 59] : List Int32).getD k 14
def tnl : Nat → Int32 := fun k => ([0, 10, 0, 0, 0, 10, 0, 0, 0, 0, 0, 1, 0] : List Int32).getD k 0
theorem tcl_14 {k : Nat} (h : 13 ≤ k) : tcl k = 14 := by
  unfold tcl; rw [List.getD_eq_getElem?_getD, List.getElem?_eq_none (by simpa using h)]; rfl
theorem tnl_0 {k : Nat} (h : 13 ≤ k) : tnl k = 0 := by
  unfold tnl; rw [List.getD_eq_getElem?_getD, List.getElem?_eq_none (by simpa using h)]; rfl
theorem rB_a : (∀ k, k < 13 → tcS rB 44 k = tcl k ∧ tnS rB 44 k = tnl k) ∧ ¬ psS rB 44 13 < 44 := by decide +kernel
theorem rB2_a : (∀ k, k < 13 → tcS rB2 48 k = tcl k ∧ tnS rB2 48 k = tnl k) ∧ ¬ psS rB2 48 13 < 48 := by decide +kernel
theorem rB_tc : tcS rB 44 = tcl ∧ tnS rB 44 = tnl := by
  constructor <;> funext k
  · by_cases h : k < 13
    · exact (rB_a.1 k h).1
    · rw [tcl_14 (by omega), tcS, if_neg (by rw [psS_end rB_a.2 k (by omega)]; omega)]
  · by_cases h : k < 13
    · exact (rB_a.1 k h).2
    · rw [tnl_0 (by omega), tnS, if_neg (by rw [psS_end rB_a.2 k (by omega)]; omega)]
theorem rB2_tc : tcS rB2 48 = tcl ∧ tnS rB2 48 = tnl := by
  constructor <;> funext k
  · by_cases h : k < 13
    · exact (rB2_a.1 k h).1
    · rw [tcl_14 (by omega), tcS, if_neg (by rw [psS_end rB2_a.2 k (by omega)]; omega)]
  · by_cases h : k < 13
    · exact (rB2_a.1 k h).2
    · rw [tnl_0 (by omega), tnS, if_neg (by rw [psS_end rB2_a.2 k (by omega)]; omega)]
theorem rul0 : flS tcl tnl = none := by decide +kernel
abbrev tRul : Nat → List Int32 := tdT tcl tnl
theorem rB2_b : ∀ i, i < 48 → 0 ≤ rB2 i := by decide +kernel
def adS (l : List Nat) (k : Nat) : Nat := l.getD k 0

