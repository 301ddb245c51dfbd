/-! THE REFERENCE -/
theorem mU_1 {x : mS} {k i : Nat} {v : Int32} : (mU x k i v).1 = uM x.1 k i v := rfl
theorem mU_2 {x : mS} {k i : Nat} {v : Int32} : (mU x k i v).2 = x.2 := rfl
/-- n gloves -/
abbrev mnR (x : mS) (n : Nat) : Prop := x.1 0 10 = nI n ∧ n ≤ 6
theorem m1_n {n : Nat} (h : n ≤ 6) : (nI n - 1).toInt = (n : Int) - 1 := by
  rw [i32_sub] <;> rw [nI_toInt (by omega)] <;> simp <;> omega

set_option maxHeartbeats 4000000 in
set_option maxRecDepth 100000 in
theorem c_X10_in (l : Launch) (g : jG) {S : Type} (wd : S → va_W) (x : S) (v : Int64) (u : Int64) (t : Int64)  : Ci l g yX10_in cX10_in 6 .boolean 0 0 0 0 wd [.long v, .long u, .long t] x (fun r z => ((r = 1 ∧ (u ≤ v ∧ v ≤ t)) ∨ (r = 0 ∧ ¬ (u ≤ v ∧ v ≤ t))) ∧ z = x) := by
  refine mk_i (by decide +kernel) rfl (fun KK hKl hKg C hin hret => ?_)
  subst hKl; subst hKg
  refine j_lv (lv' := [(0, _), (2, _), (4, _)]) rfl ?_
  refine j_lload_n C dX10_in_0 rfl rfl ?_
  refine j_lload_n C dX10_in_1 rfl rfl ?_
  refine j_lcmp C dX10_in_2 ?_
  refine j_if_lt (tgt := 17) C dX10_in_3 (by decide) (fun c_1 => ?_) (fun c_1 => ?_)
  · rw [lg_cmp_lt] at c_1
    refine j_iconst (v := 0) C dX10_in_17 rfl ?_
    refine hret _ _ _ _ dX10_in_18 rfl ?_
    exact ⟨Or.inr ⟨rfl, by simp only [Int32.lt_iff_toInt_lt, Int32.le_iff_toInt_le, ← Int32.toInt_inj, Int32.reduceToInt, Int64.lt_iff_toInt_lt, Int64.le_iff_toInt_le, Int32.toInt_toInt64, Int64.reduceToInt] at c_1 ⊢; omega⟩, rfl⟩
  · rw [lg_cmp_lt] at c_1
    refine j_lload_n C dX10_in_6 rfl rfl ?_
    refine j_lload C dX10_in_7 rfl ?_
    refine j_lcmp C dX10_in_9 ?_
    refine j_if_gt (tgt := 17) C dX10_in_10 (by decide) (fun c_2 => ?_) (fun c_2 => ?_)
    · rw [lg_cmp_gt] at c_2
      refine j_iconst (v := 0) C dX10_in_17 rfl ?_
      refine hret _ _ _ _ dX10_in_18 rfl ?_
      exact ⟨Or.inr ⟨rfl, by simp only [Int32.lt_iff_toInt_lt, Int32.le_iff_toInt_le, ← Int32.toInt_inj, Int32.reduceToInt, Int64.lt_iff_toInt_lt, Int64.le_iff_toInt_le, Int32.toInt_toInt64, Int64.reduceToInt] at c_1 c_2 ⊢; omega⟩, rfl⟩
    · rw [lg_cmp_gt] at c_2
      refine j_iconst (v := 1) C dX10_in_13 rfl ?_
      refine j_goto (tgt := 18) C dX10_in_14 (by decide) ?_
      refine hret _ _ _ _ dX10_in_18 rfl ?_
      exact ⟨Or.inl ⟨rfl, by simp only [Int32.lt_iff_toInt_lt, Int32.le_iff_toInt_le, ← Int32.toInt_inj, Int32.reduceToInt, Int64.lt_iff_toInt_lt, Int64.le_iff_toInt_le, Int32.toInt_toInt64, Int64.reduceToInt] at c_1 c_2 ⊢; omega⟩, rfl⟩
set_option maxHeartbeats 4000000 in
set_option maxRecDepth 100000 in
theorem c_X10_within (l : Launch) (g : jG) {S : Type} (wd : S → va_W) (x : S) (v : Int32) (u : Int32) (t : Int32)  : Ci l g yX10_within cX10_within 3 .int 0 0 0 0 wd [.int v, .int u, .int t] x (fun r z => r = wiS v u t ∧ z = x) := by
  refine mk_i (by decide +kernel) rfl (fun KK hKl hKg C hin hret => ?_)
  subst hKl; subst hKg
  refine j_lv (lv' := [(0, _), (1, _), (2, _)]) rfl ?_
  refine j_iload_n C dX10_within_0 rfl rfl ?_
  refine j_iload_n C dX10_within_1 rfl rfl ?_
  refine j_icmp_ge (tgt := 9) C dX10_within_2 (by decide) (fun c_1 => ?_) (fun c_1 => ?_)
  · skip
    refine j_iload_n C dX10_within_9 rfl rfl ?_
    refine j_iload_n C dX10_within_10 rfl rfl ?_
    refine j_icmp_le (tgt := 18) C dX10_within_11 (by decide) (fun c_2 => ?_) (fun c_2 => ?_)
    · skip
      refine j_iload_n C dX10_within_18 rfl rfl ?_
      refine hret _ _ _ _ dX10_within_19 rfl ?_
      refine ⟨?_, rfl⟩; unfold wiS; simp only [Int32.lt_iff_toInt_lt, Int32.le_iff_toInt_le, ← Int32.toInt_inj, Int32.reduceToInt] at c_1 c_2; simp only [Int32.lt_iff_toInt_lt, Int32.le_iff_toInt_le, ← Int32.toInt_inj, Int32.reduceToInt]; (repeat' split) <;> first | rfl | omega | (apply Int32.toInt_inj.mp; omega)
    · skip
      refine j_iload_n C dX10_within_14 rfl rfl ?_
      refine j_goto (tgt := 19) C dX10_within_15 (by decide) ?_
      refine hret _ _ _ _ dX10_within_19 rfl ?_
      refine ⟨?_, rfl⟩; unfold wiS; simp only [Int32.lt_iff_toInt_lt, Int32.le_iff_toInt_le, ← Int32.toInt_inj, Int32.reduceToInt] at c_1 c_2; simp only [Int32.lt_iff_toInt_lt, Int32.le_iff_toInt_le, ← Int32.toInt_inj, Int32.reduceToInt]; (repeat' split) <;> first | rfl | omega | (apply Int32.toInt_inj.mp; omega)
  · skip
    refine j_iload_n C dX10_within_5 rfl rfl ?_
    refine j_goto (tgt := 19) C dX10_within_6 (by decide) ?_
    refine hret _ _ _ _ dX10_within_19 rfl ?_
    refine ⟨?_, rfl⟩; unfold wiS; simp only [Int32.lt_iff_toInt_lt, Int32.le_iff_toInt_le, ← Int32.toInt_inj, Int32.reduceToInt] at c_1; simp only [Int32.lt_iff_toInt_lt, Int32.le_iff_toInt_le, ← Int32.toInt_inj, Int32.reduceToInt]; (repeat' split) <;> first | rfl | omega | (apply Int32.toInt_inj.mp; omega)
set_option maxHeartbeats 4000000 in
set_option maxRecDepth 100000 in
theorem c_X10_apart (l : Launch) (g : jG) {S : Type} (wd : S → va_W) (x : S) (u : Int32) (v : Int32)  : Ci l g yX10_apart cX10_apart 2 .int 0 0 0 0 wd [.int u, .int v] x (fun r z => r = apS u v ∧ z = x) := by
  refine mk_i (by decide +kernel) rfl (fun KK hKl hKg C hin hret => ?_)
  subst hKl; subst hKg
  refine j_lv (lv' := [(0, _), (1, _)]) rfl ?_
  refine j_iload_n C dX10_apart_0 rfl rfl ?_
  refine j_iload_n C dX10_apart_1 rfl rfl ?_
  refine j_icmp_le (tgt := 11) C dX10_apart_2 (by decide) (fun c_1 => ?_) (fun c_1 => ?_)
  · skip
    refine j_iload_n C dX10_apart_11 rfl rfl ?_
    refine j_iload_n C dX10_apart_12 rfl rfl ?_
    refine j_isub C dX10_apart_13 ?_
    refine hret _ _ _ _ dX10_apart_14 rfl ?_
    refine ⟨?_, rfl⟩; unfold apS; first | (rw [if_pos (by simp only [Int32.lt_iff_toInt_lt, Int32.le_iff_toInt_le, ← Int32.toInt_inj, Int32.reduceToInt] at c_1 ⊢; omega)]; done) | (rw [if_neg (by simp only [Int32.lt_iff_toInt_lt, Int32.le_iff_toInt_le, ← Int32.toInt_inj, Int32.reduceToInt] at c_1 ⊢; omega)]; done)
  · skip
    refine j_iload_n C dX10_apart_5 rfl rfl ?_
    refine j_iload_n C dX10_apart_6 rfl rfl ?_
    refine j_isub C dX10_apart_7 ?_
    refine j_goto (tgt := 14) C dX10_apart_8 (by decide) ?_
    refine hret _ _ _ _ dX10_apart_14 rfl ?_
    refine ⟨?_, rfl⟩; unfold apS; first | (rw [if_pos (by simp only [Int32.lt_iff_toInt_lt, Int32.le_iff_toInt_le, ← Int32.toInt_inj, Int32.reduceToInt] at c_1 ⊢; omega)]; done) | (rw [if_neg (by simp only [Int32.lt_iff_toInt_lt, Int32.le_iff_toInt_le, ← Int32.toInt_inj, Int32.reduceToInt] at c_1 ⊢; omega)]; done)
set_option maxHeartbeats 4000000 in
set_option maxRecDepth 100000 in
theorem c_X10_isGlove (l : Launch) (g : jG) (a : Nat → Nat) (x : mS) (p : Int32) (n : Nat) (hn : mnR x n) : Ci l g yX10_isGlove cX10_isGlove 2 .boolean 1 25 0 0 (mW g a) [.ref (a 0), .int p] x (fun r z => ((r = 1 ∧ (0 ≤ p ∧ p < x.1 0 10)) ∨ (r = 0 ∧ ¬ (0 ≤ p ∧ p < x.1 0 10))) ∧ z = x) := by
  refine mk_i (by decide +kernel) rfl (fun KK hKl hKg C hin hret => ?_)
  subst hKl; subst hKg
  refine j_lv (lv' := [(0, _), (1, _)]) rfl ?_
  have e_n : (x.1 0 10).toInt = n := by rw [hn.1]; exact nI_toInt (by have := hn.2; omega)
  have e_1 : (x.1 0 10 - 1).toInt = (n : Int) - 1 := by rw [hn.1]; exact m1_n hn.2
  refine j_iload_n C dX10_isGlove_0 rfl rfl ?_
  refine j_i2l C dX10_isGlove_1 ?_
  refine j_lconst (v := 0) C dX10_isGlove_2 rfl ?_
  refine j_aload_n C dX10_isGlove_3 rfl rfl ?_
  refine j_get C dX10_isGlove_4 jf_RX10_70 (wO mO) rfl ?_
  refine j_iconst (v := 1) C dX10_isGlove_7 rfl ?_
  refine j_isub C dX10_isGlove_8 ?_
  refine j_i2l C dX10_isGlove_9 ?_
  refine j_callis C (c_X10_in _ _ _ _ _ _ _ ) dX10_isGlove_10 jm_RX10_73 ⟨by decide, by decide, by decide, by decide⟩ rfl (Nat.le_of_ble_eq_true rfl) (fun r z hz => ?_)
  obtain ⟨hb, hz⟩ := hz; have hz := hz.symm; subst hz
  rcases hb with ⟨rfl, b_1⟩ | ⟨rfl, b_1⟩
  · skip
    have hP : 0 ≤ p ∧ p < x.1 0 10 := by simp only [Int32.lt_iff_toInt_lt, Int32.le_iff_toInt_le, ← Int32.toInt_inj, Int32.reduceToInt, Int64.lt_iff_toInt_lt, Int64.le_iff_toInt_le, Int32.toInt_toInt64, Int64.reduceToInt, e_n, e_1] at b_1 ⊢; omega
    refine hret _ _ _ _ dX10_isGlove_13 (by first | rfl | exact bI_n) ?_
    exact ⟨Or.inl ⟨rfl, hP⟩, rfl⟩
  · skip
    have hP : ¬ (0 ≤ p ∧ p < x.1 0 10) := by simp only [Int32.lt_iff_toInt_lt, Int32.le_iff_toInt_le, ← Int32.toInt_inj, Int32.reduceToInt, Int64.lt_iff_toInt_lt, Int64.le_iff_toInt_le, Int32.toInt_toInt64, Int64.reduceToInt, e_n, e_1] at b_1 ⊢; omega
    refine hret _ _ _ _ dX10_isGlove_13 (by first | rfl | exact bI_n) ?_
    exact ⟨Or.inr ⟨rfl, hP⟩, rfl⟩
set_option maxHeartbeats 4000000 in
set_option maxRecDepth 100000 in
theorem c_X10_mostOf (l : Launch) (g : jG) {S : Type} (wd : S → va_W) (x : S) (w : Int32)  : Ci l g yX10_mostOf cX10_mostOf 1 .int 0 0 0 0 wd [.int w] x (fun r z => r = (if w < 2 ∨ w = 4 then 19 else if w = 3 then 9 else if w = 5 then 4 else 1) ∧ z = x) := by
  refine mk_i (by decide +kernel) rfl (fun KK hKl hKg C hin hret => ?_)
  subst hKl; subst hKg
  refine j_lv (lv' := [(0, _)]) rfl ?_
  refine j_iload_n C dX10_mostOf_0 rfl rfl ?_
  refine j_iconst (v := 2) C dX10_mostOf_1 rfl ?_
  refine j_icmp_lt (tgt := 10) C dX10_mostOf_2 (by decide) (fun c_2 => ?_) (fun c_2 => ?_)
  · skip
    refine j_bipush (v := 19) C dX10_mostOf_10 rfl ?_
    refine j_goto (tgt := 35) C dX10_mostOf_12 (by decide) ?_
    refine hret _ _ _ _ dX10_mostOf_35 rfl ?_
    refine ⟨?_, rfl⟩
    first
      | (rw [if_pos (Or.inl c_2)]; done)
      | (rw [if_pos (Or.inr c_7)]; done)
      | (rw [if_neg (fun h => h.elim c_2 c_7), if_pos c_17]; done)
      | (rw [if_neg (fun h => h.elim c_2 c_7), if_neg c_17, if_pos c_27]; done)
      | (rw [if_neg (fun h => h.elim c_2 c_7), if_neg c_17, if_neg c_27]; done)
  · skip
    refine j_iload_n C dX10_mostOf_5 rfl rfl ?_
    refine j_iconst (v := 4) C dX10_mostOf_6 rfl ?_
    refine j_icmp_ne (tgt := 15) C dX10_mostOf_7 (by decide) (fun c_7 => ?_) (fun c_7 => ?_)
    · skip
      refine j_iload_n C dX10_mostOf_15 rfl rfl ?_
      refine j_iconst (v := 3) C dX10_mostOf_16 rfl ?_
      refine j_icmp_ne (tgt := 25) C dX10_mostOf_17 (by decide) (fun c_17 => ?_) (fun c_17 => ?_)
      · skip
        refine j_iload_n C dX10_mostOf_25 rfl rfl ?_
        refine j_iconst (v := 5) C dX10_mostOf_26 rfl ?_
        refine j_icmp_ne (tgt := 34) C dX10_mostOf_27 (by decide) (fun c_27 => ?_) (fun c_27 => ?_)
        · skip
          refine j_iconst (v := 1) C dX10_mostOf_34 rfl ?_
          refine hret _ _ _ _ dX10_mostOf_35 rfl ?_
          refine ⟨?_, rfl⟩
          first
            | (rw [if_pos (Or.inl c_2)]; done)
            | (rw [if_pos (Or.inr c_7)]; done)
            | (rw [if_neg (fun h => h.elim c_2 c_7), if_pos c_17]; done)
            | (rw [if_neg (fun h => h.elim c_2 c_7), if_neg c_17, if_pos c_27]; done)
            | (rw [if_neg (fun h => h.elim c_2 c_7), if_neg c_17, if_neg c_27]; done)
        · skip
          refine j_iconst (v := 4) C dX10_mostOf_30 rfl ?_
          refine j_goto (tgt := 35) C dX10_mostOf_31 (by decide) ?_
          refine hret _ _ _ _ dX10_mostOf_35 rfl ?_
          refine ⟨?_, rfl⟩
          first
            | (rw [if_pos (Or.inl c_2)]; done)
            | (rw [if_pos (Or.inr c_7)]; done)
            | (rw [if_neg (fun h => h.elim c_2 c_7), if_pos c_17]; done)
            | (rw [if_neg (fun h => h.elim c_2 c_7), if_neg c_17, if_pos c_27]; done)
            | (rw [if_neg (fun h => h.elim c_2 c_7), if_neg c_17, if_neg c_27]; done)
      · skip
        refine j_bipush (v := 9) C dX10_mostOf_20 rfl ?_
        refine j_goto (tgt := 35) C dX10_mostOf_22 (by decide) ?_
        refine hret _ _ _ _ dX10_mostOf_35 rfl ?_
        refine ⟨?_, rfl⟩
        first
          | (rw [if_pos (Or.inl c_2)]; done)
          | (rw [if_pos (Or.inr c_7)]; done)
          | (rw [if_neg (fun h => h.elim c_2 c_7), if_pos c_17]; done)
          | (rw [if_neg (fun h => h.elim c_2 c_7), if_neg c_17, if_pos c_27]; done)
          | (rw [if_neg (fun h => h.elim c_2 c_7), if_neg c_17, if_neg c_27]; done)
    · skip
      refine j_bipush (v := 19) C dX10_mostOf_10 rfl ?_
      refine j_goto (tgt := 35) C dX10_mostOf_12 (by decide) ?_
      refine hret _ _ _ _ dX10_mostOf_35 rfl ?_
      refine ⟨?_, rfl⟩
      first
        | (rw [if_pos (Or.inl c_2)]; done)
        | (rw [if_pos (Or.inr c_7)]; done)
        | (rw [if_neg (fun h => h.elim c_2 c_7), if_pos c_17]; done)
        | (rw [if_neg (fun h => h.elim c_2 c_7), if_neg c_17, if_pos c_27]; done)
        | (rw [if_neg (fun h => h.elim c_2 c_7), if_neg c_17, if_neg c_27]; done)
set_option maxHeartbeats 4000000 in
set_option maxRecDepth 100000 in
theorem c_X10_lastsOf (l : Launch) (g : jG) (a : Nat → Nat) (x : mS) (p : Int32) (i : Nat) (hp : p = nI i) (hi : i < 6) : Ci l g yX10_lastsOf cX10_lastsOf 3 .int 0 0 0 0 (mW g a) [.ref (a 0), .int p] x (fun r z => r = laS (fun j => if j = 0 then x.1 5 i else x.1 6 (4 * i)) ∧ z = x) := by
  refine mk_i (by decide +kernel) rfl (fun KK hKl hKg C hin hret => ?_)
  subst hKl; subst hKg
  refine j_lv (lv' := [(0, _), (1, _)]) rfl ?_
  subst hp
  refine j_aload_n C dX10_lastsOf_0 rfl rfl ?_
  refine j_get C dX10_lastsOf_1 jf_RX10_26 (wO mO) rfl ?_
  refine j_iload_n C dX10_lastsOf_4 rfl rfl ?_
  refine j_iald C (i) dX10_lastsOf_5 (wA mA5) (rfl) (hi) (by decide) ?_
  refine j_istore_n (lv' := [(2, _), (0, _), (1, _)]) C dX10_lastsOf_6 rfl (by decide) rfl ?_
  refine j_iload_n C dX10_lastsOf_7 rfl rfl ?_
  refine j_iconst (v := 1) C dX10_lastsOf_8 rfl ?_
  refine j_icmp_eq (tgt := 17) C dX10_lastsOf_9 (by decide) (fun c_9 => ?_) (fun c_9 => ?_)
  · skip
    refine j_bipush (v := 20) C dX10_lastsOf_17 rfl ?_
    refine j_aload_n C dX10_lastsOf_19 rfl rfl ?_
    refine j_get C dX10_lastsOf_20 jf_RX10_29 (wO mO) rfl ?_
    refine j_iconst (v := 4) C dX10_lastsOf_23 rfl ?_
    refine j_iload_n C dX10_lastsOf_24 rfl rfl ?_
    refine j_imul C dX10_lastsOf_25 ?_
    refine j_iald C (4 * i) dX10_lastsOf_26 (wA mA6) (pk_mul 4 i) (by omega) (by decide) ?_
    refine j_iadd C dX10_lastsOf_27 ?_
    refine j_goto (tgt := 53) C dX10_lastsOf_28 (by decide) ?_
    refine hret _ _ _ _ dX10_lastsOf_53 rfl ?_
    refine ⟨?_, rfl⟩; simp [laS, *]
  · skip
    refine j_iload_n C dX10_lastsOf_12 rfl rfl ?_
    refine j_iconst (v := 3) C dX10_lastsOf_13 rfl ?_
    refine j_icmp_ne (tgt := 31) C dX10_lastsOf_14 (by decide) (fun c_14 => ?_) (fun c_14 => ?_)
    · skip
      refine j_iload_n C dX10_lastsOf_31 rfl rfl ?_
      refine j_iconst (v := 4) C dX10_lastsOf_32 rfl ?_
      refine j_icmp_ne (tgt := 41) C dX10_lastsOf_33 (by decide) (fun c_33 => ?_) (fun c_33 => ?_)
      · skip
        refine j_iload_n C dX10_lastsOf_41 rfl rfl ?_
        refine j_iconst (v := 5) C dX10_lastsOf_42 rfl ?_
        refine j_icmp_ne (tgt := 51) C dX10_lastsOf_43 (by decide) (fun c_43 => ?_) (fun c_43 => ?_)
        · skip
          refine j_bipush (v := 20) C dX10_lastsOf_51 rfl ?_
          refine hret _ _ _ _ dX10_lastsOf_53 rfl ?_
          refine ⟨?_, rfl⟩; simp [laS, *]
        · skip
          refine j_bipush (v := 30) C dX10_lastsOf_46 rfl ?_
          refine j_goto (tgt := 53) C dX10_lastsOf_48 (by decide) ?_
          refine hret _ _ _ _ dX10_lastsOf_53 rfl ?_
          refine ⟨?_, rfl⟩; simp [laS, *]
      · skip
        refine j_bipush (v := 10) C dX10_lastsOf_36 rfl ?_
        refine j_goto (tgt := 53) C dX10_lastsOf_38 (by decide) ?_
        refine hret _ _ _ _ dX10_lastsOf_53 rfl ?_
        refine ⟨?_, rfl⟩; simp [laS, *]
    · skip
      refine j_bipush (v := 20) C dX10_lastsOf_17 rfl ?_
      refine j_aload_n C dX10_lastsOf_19 rfl rfl ?_
      refine j_get C dX10_lastsOf_20 jf_RX10_29 (wO mO) rfl ?_
      refine j_iconst (v := 4) C dX10_lastsOf_23 rfl ?_
      refine j_iload_n C dX10_lastsOf_24 rfl rfl ?_
      refine j_imul C dX10_lastsOf_25 ?_
      refine j_iald C (4 * i) dX10_lastsOf_26 (wA mA6) (pk_mul 4 i) (by omega) (by decide) ?_
      refine j_iadd C dX10_lastsOf_27 ?_
      refine j_goto (tgt := 53) C dX10_lastsOf_28 (by decide) ?_
      refine hret _ _ _ _ dX10_lastsOf_53 rfl ?_
      refine ⟨?_, rfl⟩; simp [laS, *]
set_option maxHeartbeats 4000000 in
set_option maxRecDepth 100000 in
theorem c_X10_told (l : Launch) (g : jG) (a : Nat → Nat) (x : mS) (o : Int32) (w : Int32) (n : Nat) (hn : mnR x n) : Ci l g yX10_told cX10_told 3 .int 2 46 0 0 (mW g a) [.ref (a 0), .int o, .int w] x (fun r z => r = (if (0 ≤ w ∧ w ≤ 8) ∧ (w ≤ 2 ∨ (0 ≤ o ∧ o < x.1 0 10)) then tdS (x.1 4) (fun j => if j = 0 then x.1 5 o.toNatClampNeg else x.1 6 (4 * o.toNatClampNeg + (j - 1))) w else -2) ∧ z = x) := by
  refine mk_i (by decide +kernel) rfl (fun KK hKl hKg C hin hret => ?_)
  subst hKl; subst hKg
  refine j_lv (lv' := [(0, _), (1, _), (2, _)]) rfl ?_
  have hn6 := hn.2
  refine j_iload_n C dX10_told_0 rfl rfl ?_
  refine j_i2l C dX10_told_1 ?_
  refine j_lconst (v := 0) C dX10_told_2 rfl ?_
  refine j_ldc2 C dX10_told_3 jc_RX10_104 ?_
  refine j_callis C (c_X10_in _ _ _ _ _ _ _ ) dX10_told_6 jm_RX10_73 ⟨by decide, by decide, by decide, by decide⟩ rfl (Nat.le_of_ble_eq_true rfl) (fun r z hz => ?_)
  obtain ⟨hb, hz⟩ := hz; have hz := hz.symm; subst hz
  rcases hb with ⟨rfl, b_6⟩ | ⟨rfl, b_6⟩
  · skip
    have hw8 : 0 ≤ w ∧ w ≤ 8 := by simp only [Int32.lt_iff_toInt_lt, Int32.le_iff_toInt_le, ← Int32.toInt_inj, Int32.reduceToInt, Int64.lt_iff_toInt_lt, Int64.le_iff_toInt_le, Int32.toInt_toInt64, Int64.reduceToInt] at b_6 ⊢; omega
    obtain ⟨j, hj, rfl⟩ := in_of (B := 9) (q := w) (m := 9) (by simp only [Int32.lt_iff_toInt_lt, Int32.le_iff_toInt_le, ← Int32.toInt_inj, Int32.reduceToInt] at hw8 ⊢; omega) rfl
    have e_j : (nI j).toInt = j := nI_toInt (by omega)
    refine j_if_eq (tgt := 25) C dX10_told_9 (by decide) (fun c => absurd c (by decide)) (fun _ => ?_)
    refine j_iload_n C dX10_told_12 rfl rfl ?_
    refine j_iconst (v := 2) C dX10_told_13 rfl ?_
    refine j_icmp_le (tgt := 28) C dX10_told_14 (by decide) (fun c_14 => ?_) (fun c_14 => ?_)
    · skip
      refine j_iload_n C dX10_told_28 rfl rfl ?_
      refine j_iconst (v := 3) C dX10_told_29 rfl ?_
      refine j_icmp_ge (tgt := 42) C dX10_told_30 (by decide) (fun c_30 => ?_) (fun c_30 => ?_)
      · skip
        exact absurd c_30 (by simp only [Int32.lt_iff_toInt_lt, Int32.le_iff_toInt_le, ← Int32.toInt_inj, Int32.reduceToInt, e_j] at c_14 c_30 ⊢; omega)
      · skip
        skip
        refine j_aload_n C dX10_told_33 rfl rfl ?_
        refine j_get C dX10_told_34 jf_RX10_23 (wO mO) rfl ?_
        refine j_iload_n C dX10_told_37 rfl rfl ?_
        refine j_iald C (j) dX10_told_38 (wA mA4) (rfl) (by simp only [Int32.lt_iff_toInt_lt, Int32.le_iff_toInt_le, ← Int32.toInt_inj, Int32.reduceToInt, e_j] at c_30; omega) (by decide) ?_
        refine j_goto (tgt := 83) C dX10_told_39 (by decide) ?_
        refine hret _ _ _ _ dX10_told_83 rfl ?_
        refine ok_pos ⟨hw8, Or.inl (by simp only [Int32.lt_iff_toInt_lt, Int32.le_iff_toInt_le, ← Int32.toInt_inj, Int32.reduceToInt, e_j] at c_14 ⊢; omega)⟩ ⟨?_, rfl⟩
        have h9 : j = 0 ∨ j = 1 ∨ j = 2 := by simp only [Int32.lt_iff_toInt_lt, Int32.le_iff_toInt_le, ← Int32.toInt_inj, Int32.reduceToInt, e_j] at c_30; omega
        rcases h9 with rfl | rfl | rfl <;> rfl
    · skip
      refine j_aload_n C dX10_told_17 rfl rfl ?_
      refine j_iload_n C dX10_told_18 rfl rfl ?_
      refine j_calliv C (c_X10_isGlove _ _ _ _ _ n hn) dX10_told_19 jm_RX10_79 ⟨_, _, _, _, wO mO, rfl, rfl⟩ ⟨by decide, by decide, by decide, by decide⟩ rfl (Nat.le_of_ble_eq_true rfl) (fun r z hz => ?_)
      obtain ⟨hb, hz⟩ := hz; have hz := hz.symm; subst hz
      rcases hb with ⟨rfl, b_19⟩ | ⟨rfl, b_19⟩
      · skip
        obtain ⟨i, hi, rfl⟩ := in_of (B := n) b_19 hn.1 (by omega)
        have hi6 : i < 6 := by omega
        refine j_if_ne (tgt := 28) C dX10_told_22 (by decide) (fun _ => ?_) (fun c => absurd c (by decide))
        refine j_iload_n C dX10_told_28 rfl rfl ?_
        refine j_iconst (v := 3) C dX10_told_29 rfl ?_
        refine j_icmp_ge (tgt := 42) C dX10_told_30 (by decide) (fun c_30 => ?_) (fun c_30 => ?_)
        · skip
          skip
          refine j_iload_n C dX10_told_42 rfl rfl ?_
          refine j_bipush (v := 7) C dX10_told_43 rfl ?_
          refine j_icmp_ge (tgt := 63) C dX10_told_45 (by decide) (fun c_45 => ?_) (fun c_45 => ?_)
          · skip
            refine j_iload_n C dX10_told_63 rfl rfl ?_
            refine j_bipush (v := 7) C dX10_told_64 rfl ?_
            refine j_icmp_ne (tgt := 78) C dX10_told_66 (by decide) (fun c_66 => ?_) (fun c_66 => ?_)
            · skip
              refine j_aload_n C dX10_told_78 rfl rfl ?_
              refine j_iload_n C dX10_told_79 rfl rfl ?_
              refine j_calliv C (c_X10_lastsOf _ _ _ _ _ i rfl hi6) dX10_told_80 jm_RX10_106 ⟨_, _, _, _, wO mO, rfl, rfl⟩ ⟨by decide, by decide, by decide, by decide⟩ rfl (Nat.le_of_ble_eq_true rfl) (fun r z hz => ?_)
              obtain ⟨hr, hz⟩ := hz; have hr := hr.symm; have hz := hz.symm; subst hr; subst hz
              refine hret _ _ _ _ dX10_told_83 rfl ?_
              refine ok_pos ⟨hw8, Or.inr b_19⟩ ⟨?_, rfl⟩
              rw [nI_clamp (show i < 2147483648 by omega)]
              have h3 : 3 ≤ j := by simp only [Int32.lt_iff_toInt_lt, Int32.le_iff_toInt_le, ← Int32.toInt_inj, Int32.reduceToInt, e_j] at c_30; omega
              have h9 : j = 3 ∨ j = 4 ∨ j = 5 ∨ j = 6 ∨ j = 7 ∨ j = 8 := by omega
              rcases h9 with rfl | rfl | rfl | rfl | rfl | rfl <;> first | rfl | (exact absurd c_45 (by decide)) | (exact absurd c_66 (by decide)) | (exact absurd (by decide) c_45) | (exact absurd (by decide) c_66)
            · skip
              refine j_aload_n C dX10_told_69 rfl rfl ?_
              refine j_get C dX10_told_70 jf_RX10_26 (wO mO) rfl ?_
              refine j_iload_n C dX10_told_73 rfl rfl ?_
              refine j_iald C (i) dX10_told_74 (wA mA5) (rfl) (hi6) (by decide) ?_
              refine j_goto (tgt := 83) C dX10_told_75 (by decide) ?_
              refine hret _ _ _ _ dX10_told_83 rfl ?_
              refine ok_pos ⟨hw8, Or.inr b_19⟩ ⟨?_, rfl⟩
              rw [nI_clamp (show i < 2147483648 by omega)]
              have h3 : 3 ≤ j := by simp only [Int32.lt_iff_toInt_lt, Int32.le_iff_toInt_le, ← Int32.toInt_inj, Int32.reduceToInt, e_j] at c_30; omega
              have h9 : j = 3 ∨ j = 4 ∨ j = 5 ∨ j = 6 ∨ j = 7 ∨ j = 8 := by omega
              rcases h9 with rfl | rfl | rfl | rfl | rfl | rfl <;> first | rfl | (exact absurd c_45 (by decide)) | (exact absurd c_66 (by decide)) | (exact absurd (by decide) c_45) | (exact absurd (by decide) c_66)
          · skip
            have hj3 : 3 ≤ j := by simp only [Int32.lt_iff_toInt_lt, Int32.le_iff_toInt_le, ← Int32.toInt_inj, Int32.reduceToInt, e_j] at c_30; omega
            have hj7 : j < 7 := by simp only [Int32.lt_iff_toInt_lt, Int32.le_iff_toInt_le, ← Int32.toInt_inj, Int32.reduceToInt, e_j] at c_45; omega
            refine j_aload_n C dX10_told_48 rfl rfl ?_
            refine j_get C dX10_told_49 jf_RX10_29 (wO mO) rfl ?_
            refine j_iconst (v := 4) C dX10_told_52 rfl ?_
            refine j_iload_n C dX10_told_53 rfl rfl ?_
            refine j_imul C dX10_told_54 ?_
            refine j_iload_n C dX10_told_55 rfl rfl ?_
            refine j_iadd C dX10_told_56 ?_
            refine j_iconst (v := 3) C dX10_told_57 rfl ?_
            refine j_isub C dX10_told_58 ?_
            refine j_iald C (4 * i + (j - 3)) dX10_told_59 (wA mA6) (by
                  have e1 : (4 : Int32) * nI i = nI (4 * i) := pk_mul 4 i
                  rw [e1, nI_add]
                  exact (pk_sub (b := 3) (by omega)).trans (congrArg nI (by omega))) (by omega) (by decide) ?_
            refine j_goto (tgt := 83) C dX10_told_60 (by decide) ?_
            refine hret _ _ _ _ dX10_told_83 rfl ?_
            refine ok_pos ⟨hw8, Or.inr b_19⟩ ⟨?_, rfl⟩
            rw [nI_clamp (show i < 2147483648 by omega)]
            have h3 : 3 ≤ j := by simp only [Int32.lt_iff_toInt_lt, Int32.le_iff_toInt_le, ← Int32.toInt_inj, Int32.reduceToInt, e_j] at c_30; omega
            have h9 : j = 3 ∨ j = 4 ∨ j = 5 ∨ j = 6 ∨ j = 7 ∨ j = 8 := by omega
            rcases h9 with rfl | rfl | rfl | rfl | rfl | rfl <;> first | rfl | (exact absurd c_45 (by decide)) | (exact absurd c_66 (by decide)) | (exact absurd (by decide) c_45) | (exact absurd (by decide) c_66)
        · skip
          exact absurd c_30 (by simp only [Int32.lt_iff_toInt_lt, Int32.le_iff_toInt_le, ← Int32.toInt_inj, Int32.reduceToInt, e_j] at c_14 c_30 ⊢; omega)
      · skip
        refine j_if_ne (tgt := 28) C dX10_told_22 (by decide) (fun c => absurd (by decide) c) (fun _ => ?_)
        refine j_bipush (v := -2) C dX10_told_25 rfl ?_
        refine hret _ _ _ _ dX10_told_27 rfl ?_
        first
          | exact ⟨(if_neg (fun h => by have := h.1; simp only [Int32.lt_iff_toInt_lt, Int32.le_iff_toInt_le, ← Int32.toInt_inj, Int32.reduceToInt, Int64.lt_iff_toInt_lt, Int64.le_iff_toInt_le, Int32.toInt_toInt64, Int64.reduceToInt] at *; omega)).symm, rfl⟩
          | exact ⟨(if_neg (fun h => h.2.elim (fun h2 => by simp only [Int32.lt_iff_toInt_lt, Int32.le_iff_toInt_le, ← Int32.toInt_inj, Int32.reduceToInt] at c_14 h2; omega) b_19)).symm, rfl⟩
  · skip
    refine j_if_eq (tgt := 25) C dX10_told_9 (by decide) (fun _ => ?_) (fun c => absurd (by decide) c)
    refine j_bipush (v := -2) C dX10_told_25 rfl ?_
    refine hret _ _ _ _ dX10_told_27 rfl ?_
    first
      | exact ⟨(if_neg (fun h => by have := h.1; simp only [Int32.lt_iff_toInt_lt, Int32.le_iff_toInt_le, ← Int32.toInt_inj, Int32.reduceToInt, Int64.lt_iff_toInt_lt, Int64.le_iff_toInt_le, Int32.toInt_toInt64, Int64.reduceToInt] at *; omega)).symm, rfl⟩
      | exact ⟨(if_neg (fun h => h.2.elim (fun h2 => by simp only [Int32.lt_iff_toInt_lt, Int32.le_iff_toInt_le, ← Int32.toInt_inj, Int32.reduceToInt] at c_14 h2; omega) b_19)).symm, rfl⟩
set_option maxHeartbeats 4000000 in
set_option maxRecDepth 100000 in
theorem c_X10_feed (l : Launch) (g : jG) (a : Nat → Nat) (x : mS) (v : Int32) (s : Nat) (hs : x.1 0 6 = nI s) (hs2 : s ≤ 160) : Ci l g yX10_feed cX10_feed 2 .int 1 25 0 0 (mW g a) [.ref (a 0), .int v] x (fun r z => if 0 ≤ v ∧ v < 256 then (if s < 160 then r = nI (s + 1) ∧ z = mU (mU x 3 s v) 0 6 (nI (s + 1)) else r = -4 ∧ z = x) else r = -2 ∧ z = x) := by
  refine mk_i (by decide +kernel) rfl (fun KK hKl hKg C hin hret => ?_)
  subst hKl; subst hKg
  refine j_lv (lv' := [(0, _), (1, _)]) rfl ?_
  have e_s : (x.1 0 6).toInt = s := by rw [hs]; exact nI_toInt (by omega)
  refine j_iload_n C dX10_feed_0 rfl rfl ?_
  refine j_i2l C dX10_feed_1 ?_
  refine j_lconst (v := 0) C dX10_feed_2 rfl ?_
  refine j_ldc2 C dX10_feed_3 jc_RX10_109 ?_
  refine j_callis C (c_X10_in _ _ _ _ _ _ _ ) dX10_feed_6 jm_RX10_73 ⟨by decide, by decide, by decide, by decide⟩ rfl (Nat.le_of_ble_eq_true rfl) (fun r z hz => ?_)
  obtain ⟨hb, hz⟩ := hz; have hz := hz.symm; subst hz
  rcases hb with ⟨rfl, b_6⟩ | ⟨rfl, b_6⟩
  · skip
    refine j_if_ne (tgt := 15) C dX10_feed_9 (by decide) (fun _ => ?_) (fun c => absurd c (by decide))
    refine j_aload_n C dX10_feed_15 rfl rfl ?_
    refine j_get C dX10_feed_16 jf_RX10_111 (wO mO) rfl ?_
    refine j_sipush (v := 160) C dX10_feed_19 rfl ?_
    refine j_icmp_ne (tgt := 28) C dX10_feed_22 (by decide) (fun c_22 => ?_) (fun c_22 => ?_)
    · skip
      refine j_aload_n C dX10_feed_28 rfl rfl ?_
      refine j_get C dX10_feed_29 jf_RX10_20 (wO mO) rfl ?_
      refine j_aload_n C dX10_feed_32 rfl rfl ?_
      refine j_get C dX10_feed_33 jf_RX10_111 (wO mO) rfl ?_
      refine j_iload_n C dX10_feed_36 rfl rfl ?_
      refine j_iast C (s) dX10_feed_37 (wA mA3) (hs) ((show s < 160 by have : ¬ s = 160 := (fun h => c_22 (by rw [hs, h]; rfl)); omega)) (by decide) (sMa mA3 _ _) ?_
      refine j_aload_n C dX10_feed_38 rfl rfl ?_
      refine j_dup C dX10_feed_39 rfl ?_
      refine j_get C dX10_feed_40 jf_RX10_111 (wO mO) rfl ?_
      refine j_iconst (v := 1) C dX10_feed_43 rfl ?_
      refine j_iadd C dX10_feed_44 ?_
      refine j_put C dX10_feed_45 jp_RX10_111 (wO mO) (Nat.le_of_ble_eq_true rfl) rfl rfl (sMo 6 _ rfl) ?_
      refine j_aload_n C dX10_feed_48 rfl rfl ?_
      refine j_get C dX10_feed_49 jf_RX10_111 (wO mO) rfl ?_
      refine hret _ _ _ _ dX10_feed_52 rfl ?_
      rw [if_pos (by simp only [Int32.lt_iff_toInt_lt, Int32.le_iff_toInt_le, ← Int32.toInt_inj, Int32.reduceToInt, Int64.lt_iff_toInt_lt, Int64.le_iff_toInt_le, Int32.toInt_toInt64, Int64.reduceToInt] at b_6 ⊢; omega), if_pos (show s < 160 by have : ¬ s = 160 := (fun h => c_22 (by rw [hs, h]; rfl)); omega)]
      have e : (mU x 3 s v).1 0 6 + 1 = nI (s + 1) := by rw [mU_1, uM_ne (by decide), hs, nI_1]
      rw [e]; exact ⟨by rw [mU_1, uM_s], rfl⟩
    · skip
      refine j_bipush (v := -4) C dX10_feed_25 rfl ?_
      refine hret _ _ _ _ dX10_feed_27 rfl ?_
      rw [if_pos (by simp only [Int32.lt_iff_toInt_lt, Int32.le_iff_toInt_le, ← Int32.toInt_inj, Int32.reduceToInt, Int64.lt_iff_toInt_lt, Int64.le_iff_toInt_le, Int32.toInt_toInt64, Int64.reduceToInt] at b_6 ⊢; omega), if_neg (by rw [hs] at c_22; have := (nI_eq (b := 160) (by omega) (by decide)).mp c_22; omega)]; exact ⟨rfl, rfl⟩
  · skip
    refine j_if_ne (tgt := 15) C dX10_feed_9 (by decide) (fun c => absurd (by decide) c) (fun _ => ?_)
    refine j_bipush (v := -2) C dX10_feed_12 rfl ?_
    refine hret _ _ _ _ dX10_feed_14 rfl ?_
    rw [if_neg (fun h => b_6 (by simp only [Int32.lt_iff_toInt_lt, Int32.le_iff_toInt_le, ← Int32.toInt_inj, Int32.reduceToInt, Int64.lt_iff_toInt_lt, Int64.le_iff_toInt_le, Int32.toInt_toInt64, Int64.reduceToInt] at h ⊢; omega))]; exact ⟨rfl, rfl⟩
set_option maxHeartbeats 4000000 in
set_option maxRecDepth 100000 in
theorem c_X10_force (l : Launch) (g : jG) (a : Nat → Nat) (x : mS) (v : Int32) (t : Nat) (ht : x.1 0 3 = nI t) (ht1 : 1 ≤ t) (ht2 : t ≤ 6) : Ci l g yX10_force cX10_force 3 .int 1 25 0 0 (mW g a) [.ref (a 0), .int v] x (fun r z => if 0 ≤ v ∧ v < x.1 0 3 then r = x.1 0 4 ∧ z = mU x 0 4 v else r = -2 ∧ z = x) := by
  refine mk_i (by decide +kernel) rfl (fun KK hKl hKg C hin hret => ?_)
  subst hKl; subst hKg
  refine j_lv (lv' := [(0, _), (1, _)]) rfl ?_
  have e_t : (x.1 0 3).toInt = t := by rw [ht]; exact nI_toInt (by omega)
  have e_1 : (x.1 0 3 - 1).toInt = (t : Int) - 1 := by rw [ht]; exact m1_n ht2
  refine j_iload_n C dX10_force_0 rfl rfl ?_
  refine j_i2l C dX10_force_1 ?_
  refine j_lconst (v := 0) C dX10_force_2 rfl ?_
  refine j_aload_n C dX10_force_3 rfl rfl ?_
  refine j_get C dX10_force_4 jf_RX10_67 (wO mO) rfl ?_
  refine j_iconst (v := 1) C dX10_force_7 rfl ?_
  refine j_isub C dX10_force_8 ?_
  refine j_i2l C dX10_force_9 ?_
  refine j_callis C (c_X10_in _ _ _ _ _ _ _ ) dX10_force_10 jm_RX10_73 ⟨by decide, by decide, by decide, by decide⟩ rfl (Nat.le_of_ble_eq_true rfl) (fun r z hz => ?_)
  obtain ⟨hb, hz⟩ := hz; have hz := hz.symm; subst hz
  rcases hb with ⟨rfl, b_1⟩ | ⟨rfl, b_1⟩
  · skip
    refine j_if_ne (tgt := 19) C dX10_force_13 (by decide) (fun _ => ?_) (fun c => absurd c (by decide))
    refine j_aload_n C dX10_force_19 rfl rfl ?_
    refine j_get C dX10_force_20 jf_RX10_95 (wO mO) rfl ?_
    refine j_istore_n (lv' := [(2, _), (0, _), (1, _)]) C dX10_force_23 rfl (by decide) rfl ?_
    refine j_aload_n C dX10_force_24 rfl rfl ?_
    refine j_iload_n C dX10_force_25 rfl rfl ?_
    refine j_put C dX10_force_26 jp_RX10_95 (wO mO) (Nat.le_of_ble_eq_true rfl) rfl rfl (sMo 4 _ rfl) ?_
    refine j_iload_n C dX10_force_29 rfl rfl ?_
    refine hret _ _ _ _ dX10_force_30 rfl ?_
    first | (rw [if_neg (fun h => by simp only [Int32.lt_iff_toInt_lt, Int32.le_iff_toInt_le, ← Int32.toInt_inj, Int32.reduceToInt, Int64.lt_iff_toInt_lt, Int64.le_iff_toInt_le, Int32.toInt_toInt64, Int64.reduceToInt, e_t, e_1] at *; omega)]; exact ⟨rfl, rfl⟩) | (rw [if_pos (by simp only [Int32.lt_iff_toInt_lt, Int32.le_iff_toInt_le, ← Int32.toInt_inj, Int32.reduceToInt, Int64.lt_iff_toInt_lt, Int64.le_iff_toInt_le, Int32.toInt_toInt64, Int64.reduceToInt, e_t, e_1] at *; omega)]; exact ⟨rfl, rfl⟩)
  · skip
    refine j_if_ne (tgt := 19) C dX10_force_13 (by decide) (fun c => absurd (by decide) c) (fun _ => ?_)
    refine j_bipush (v := -2) C dX10_force_16 rfl ?_
    refine hret _ _ _ _ dX10_force_18 rfl ?_
    first | (rw [if_neg (fun h => by simp only [Int32.lt_iff_toInt_lt, Int32.le_iff_toInt_le, ← Int32.toInt_inj, Int32.reduceToInt, Int64.lt_iff_toInt_lt, Int64.le_iff_toInt_le, Int32.toInt_toInt64, Int64.reduceToInt, e_t, e_1] at *; omega)]; exact ⟨rfl, rfl⟩) | (rw [if_pos (by simp only [Int32.lt_iff_toInt_lt, Int32.le_iff_toInt_le, ← Int32.toInt_inj, Int32.reduceToInt, Int64.lt_iff_toInt_lt, Int64.le_iff_toInt_le, Int32.toInt_toInt64, Int64.reduceToInt, e_t, e_1] at *; omega)]; exact ⟨rfl, rfl⟩)
