/-! WHAT THE STATEMENT GIVES OF THE START: the environment -/
def gvL : Cond := Jvm.Cond.and given_1 narrow_1
def stm (i : Nat) : Term := .string (sOwn i) (sIdx i)
def atm : Term := .static "OneGlove" "ABOVE" "[I"
theorem f_ex : ∀ i, i < 14 → Cond.exactly (stm i) "java/lang/String" ∈ flatC gvL := by decide +kernel
theorem f_co : ∀ i, i < 14 → Cond.eq (.field (stm i) "java/lang/String" "coder" "B") (.int 0) ∈ flatC gvL := by decide +kernel
theorem f_ar : ∀ i, i < 14 → Cond.arrayOf (.field (stm i) "java/lang/String" "value" "[B") .byte ∈ flatC gvL := by decide +kernel
theorem f_le : ∀ i, i < 14 → Cond.eq (.length (.field (stm i) "java/lang/String" "value" "[B")) (.int (Int32.ofNat (sLen.getD i 0))) ∈ flatC gvL := by decide +kernel
theorem f_el : ∀ i, i < 14 → ∀ j, j < sLen.getD i 0 → Cond.eq (.elem (.field (stm i) "java/lang/String" "value" "[B") (.int (Int32.ofNat j))) (.int ((sByt.getD i []).getD j 0)) ∈ flatC gvL := by decide +kernel
theorem f_ne_1 : ∀ j, j < 1 → (Cond.not (Cond.eq (stm 1) (stm j)) ∈ flatC gvL ∨ Cond.not (Cond.eq (stm j) (stm 1)) ∈ flatC gvL) := by decide +kernel
theorem f_ne_2 : ∀ j, j < 2 → (Cond.not (Cond.eq (stm 2) (stm j)) ∈ flatC gvL ∨ Cond.not (Cond.eq (stm j) (stm 2)) ∈ flatC gvL) := by decide +kernel
theorem f_ne_3 : ∀ j, j < 3 → (Cond.not (Cond.eq (stm 3) (stm j)) ∈ flatC gvL ∨ Cond.not (Cond.eq (stm j) (stm 3)) ∈ flatC gvL) := by decide +kernel
theorem f_ne_4 : ∀ j, j < 4 → (Cond.not (Cond.eq (stm 4) (stm j)) ∈ flatC gvL ∨ Cond.not (Cond.eq (stm j) (stm 4)) ∈ flatC gvL) := by decide +kernel
theorem f_ne_5 : ∀ j, j < 5 → (Cond.not (Cond.eq (stm 5) (stm j)) ∈ flatC gvL ∨ Cond.not (Cond.eq (stm j) (stm 5)) ∈ flatC gvL) := by decide +kernel
theorem f_ne_6 : ∀ j, j < 6 → (Cond.not (Cond.eq (stm 6) (stm j)) ∈ flatC gvL ∨ Cond.not (Cond.eq (stm j) (stm 6)) ∈ flatC gvL) := by decide +kernel
theorem f_ne_7 : ∀ j, j < 7 → (Cond.not (Cond.eq (stm 7) (stm j)) ∈ flatC gvL ∨ Cond.not (Cond.eq (stm j) (stm 7)) ∈ flatC gvL) := by decide +kernel
theorem f_ne_8 : ∀ j, j < 8 → (Cond.not (Cond.eq (stm 8) (stm j)) ∈ flatC gvL ∨ Cond.not (Cond.eq (stm j) (stm 8)) ∈ flatC gvL) := by decide +kernel
theorem f_ne_9 : ∀ j, j < 9 → (Cond.not (Cond.eq (stm 9) (stm j)) ∈ flatC gvL ∨ Cond.not (Cond.eq (stm j) (stm 9)) ∈ flatC gvL) := by decide +kernel
theorem f_ne_10 : ∀ j, j < 10 → (Cond.not (Cond.eq (stm 10) (stm j)) ∈ flatC gvL ∨ Cond.not (Cond.eq (stm j) (stm 10)) ∈ flatC gvL) := by decide +kernel
theorem f_ne_11 : ∀ j, j < 11 → (Cond.not (Cond.eq (stm 11) (stm j)) ∈ flatC gvL ∨ Cond.not (Cond.eq (stm j) (stm 11)) ∈ flatC gvL) := by decide +kernel
theorem f_ne_12 : ∀ j, j < 12 → (Cond.not (Cond.eq (stm 12) (stm j)) ∈ flatC gvL ∨ Cond.not (Cond.eq (stm j) (stm 12)) ∈ flatC gvL) := by decide +kernel
theorem f_ne_13 : ∀ j, j < 13 → (Cond.not (Cond.eq (stm 13) (stm j)) ∈ flatC gvL ∨ Cond.not (Cond.eq (stm j) (stm 13)) ∈ flatC gvL) := by decide +kernel
theorem f_ne : ∀ i, i < 14 → ∀ j, j < i → (Cond.not (Cond.eq (stm i) (stm j)) ∈ flatC gvL ∨ Cond.not (Cond.eq (stm j) (stm i)) ∈ flatC gvL) := by
  intro i hi j hj
  match i with
  | 0 => exact absurd hj (by omega)
  | 1 => exact f_ne_1 j hj
  | 2 => exact f_ne_2 j hj
  | 3 => exact f_ne_3 j hj
  | 4 => exact f_ne_4 j hj
  | 5 => exact f_ne_5 j hj
  | 6 => exact f_ne_6 j hj
  | 7 => exact f_ne_7 j hj
  | 8 => exact f_ne_8 j hj
  | 9 => exact f_ne_9 j hj
  | 10 => exact f_ne_10 j hj
  | 11 => exact f_ne_11 j hj
  | 12 => exact f_ne_12 j hj
  | 13 => exact f_ne_13 j hj
  | n + 14 => exact absurd hi (by omega)
theorem f_ab : Cond.arrayOf atm .int ∈ flatC gvL ∧ Cond.eq (.length atm) (.int 6) ∈ flatC gvL ∧ (∀ j, j < 6 → Cond.eq (.elem atm (.int (Int32.ofNat j))) (.int (abv j)) ∈ flatC gvL) := by decide +kernel
theorem f_cs : Cond.eq (.static "java/lang/String" "COMPACT_STRINGS" "Z") (.int 1) ∈ flatC gvL ∧ Cond.isRef (.static "jdk/internal/util/Preconditions" "SIOOBE_FORMATTER" "Ljava/util/function/BiFunction;") ∈ flatC gvL := by decide +kernel
theorem f_sr : ∀ i, i < 14 → Cond.stringRef (sOwn i) (sIdx i) (sTx i) ∈ lw_tbl := by decide +kernel
theorem f_nw : ∀ w ∈ jNest, w ∈ lw_tbl ∧ w.onTables = true := by decide +kernel
theorem f_ao : Cond.arrayOver (.object "OneGlove$Glove") ∈ lw_tbl ∧ Cond.arrayOver (.object "OneGlove$Text") ∈ lw_tbl ∧ Cond.arrayOver (.object "OneGlove$Row") ∈ lw_tbl := by decide +kernel
theorem f_ls : Cond.laysStatic "OneGlove" "ABOVE" "[I" ∈ lw_tbl ∧ Cond.laysStatic "java/lang/String" "COMPACT_STRINGS" "Z" ∈ lw_tbl ∧ Cond.laysStatic "jdk/internal/util/Preconditions" "SIOOBE_FORMATTER" "Ljava/util/function/BiFunction;" ∈ lw_tbl ∧ Cond.initialized "OneGlove" ∈ lw_tbl ∧ Cond.initialized "java/lang/String" ∈ lw_tbl ∧ Cond.initialized "jdk/internal/util/Preconditions" ∈ lw_tbl := by decide +kernel

