/-- a sheet is laid: i which, e of its cells empty so far -/
def shQ (x z : mS) (i : Nat) (t n : Int32) (e : Nat) : Prop := z.2 = x.2 ∧ z.1 12 = upd (x.1 12) i (if t = -1 then 0 else 1) ∧ z.1 13 = upd (x.1 13) i t ∧ z.1 14 = upd (x.1 14) i n ∧ (∀ j, (j < 40 * i ∨ 40 * i + 40 ≤ j) → z.1 15 j = x.1 15 j) ∧ (t ≠ -1 → ∀ j, j < e → z.1 15 (40 * i + j) = 0) ∧ ∀ c, (c < 12 ∨ 15 < c) → z.1 c = x.1 c
abbrev shY (x z : mS) (i : Nat) (t n : Int32) : Prop := shQ x z i t n n.toNatClampNeg
def ovS (k : Int32) : Int32 := if k = 0 then -1 else if k = 3 then 1 else if k = 4 then 2 else 0

def rkS (y : Int32) : Nat := if y = -1 then 0 else if y = 0 then 1 else if y = 3 ∨ y = 4 then 3 else 2
theorem un_ov {q y : Int32} (h : 0 ≤ y ∧ y < 6) (hne : ¬ y = q) : (undF q 6 y ↔ undF q 6 (ovS y)) ∧ rkS (ovS y) < rkS y ∧ -1 ≤ ovS y ∧ ovS y < 6 := by
  obtain ⟨j, hj, rfl⟩ := in_of (B := 6) h rfl
  have h6 : j = 0 ∨ j = 1 ∨ j = 2 ∨ j = 3 ∨ j = 4 ∨ j = 5 := by omega
  rcases h6 with rfl | rfl | rfl | rfl | rfl | rfl
  all_goals (refine ⟨?_, by decide, by decide, by decide⟩)
  all_goals (simp [undF, ovS, abv, nI] at hne ⊢)
  all_goals (try simp [hne])
theorem un_no {q : Int32} : ¬ undF q 6 (-1) := fun h => absurd h.1.1 (by decide)
theorem un_eq {q : Int32} (h : 0 ≤ q ∧ q < 6) : undF q 6 q := ⟨h, Or.inl rfl⟩
theorem rk_4 {y : Int32} : rkS y < 4 := by
  unfold rkS; split
  · omega
  · split
    · omega
    · split <;> omega

set_option maxHeartbeats 4000000 in
set_option maxRecDepth 100000 in
theorem c_X10_count (l : Launch) (g : jG) (a : Nat → Nat) (x : mS) (w : Int32)  : Ci l g yX10_count cX10_count 2 .int 1 21 0 0 (mW g a) [.ref (a 0), .int w] x (fun r z => r = (if w = 0 then x.1 0 10 else if w = 1 then apS (x.1 4 0) (x.1 4 1) + 1 else if w = 2 then x.1 0 3 else if w = 3 then x.1 0 6 else if w = 4 then x.1 0 4 else -2) ∧ z = x) := by
  refine mk_i (by decide +kernel) rfl (fun KK hKl hKg C hin hret => ?_)
  subst hKl; subst hKg
  refine j_lv (lv' := [(0, _), (1, _)]) rfl ?_
  refine j_iload_n C dX10_count_0 rfl rfl ?_
  refine j_if_ne (tgt := 11) C dX10_count_1 (by decide) (fun c_1 => ?_) (fun c_1 => ?_)
  · skip
    refine j_iload_n C dX10_count_11 rfl rfl ?_
    refine j_iconst (v := 1) C dX10_count_12 rfl ?_
    refine j_icmp_ne (tgt := 36) C dX10_count_13 (by decide) (fun c_2 => ?_) (fun c_2 => ?_)
    · skip
      refine j_iload_n C dX10_count_36 rfl rfl ?_
      refine j_iconst (v := 2) C dX10_count_37 rfl ?_
      refine j_icmp_ne (tgt := 48) C dX10_count_38 (by decide) (fun c_3 => ?_) (fun c_3 => ?_)
      · skip
        refine j_iload_n C dX10_count_48 rfl rfl ?_
        refine j_iconst (v := 3) C dX10_count_49 rfl ?_
        refine j_icmp_ne (tgt := 60) C dX10_count_50 (by decide) (fun c_4 => ?_) (fun c_4 => ?_)
        · skip
          refine j_iload_n C dX10_count_60 rfl rfl ?_
          refine j_iconst (v := 4) C dX10_count_61 rfl ?_
          refine j_icmp_ne (tgt := 72) C dX10_count_62 (by decide) (fun c_5 => ?_) (fun c_5 => ?_)
          · skip
            refine j_bipush (v := -2) C dX10_count_72 rfl ?_
            refine hret _ _ _ _ dX10_count_74 rfl ?_
            refine ⟨?_, rfl⟩; simp [*]
          · skip
            refine j_aload_n C dX10_count_65 rfl rfl ?_
            refine j_get C dX10_count_66 jf_RX10_95 (wO mO) rfl ?_
            refine j_goto (tgt := 74) C dX10_count_69 (by decide) ?_
            refine hret _ _ _ _ dX10_count_74 rfl ?_
            refine ⟨?_, rfl⟩; simp [*]
        · skip
          refine j_aload_n C dX10_count_53 rfl rfl ?_
          refine j_get C dX10_count_54 jf_RX10_111 (wO mO) rfl ?_
          refine j_goto (tgt := 74) C dX10_count_57 (by decide) ?_
          refine hret _ _ _ _ dX10_count_74 rfl ?_
          refine ⟨?_, rfl⟩; simp [*]
      · skip
        refine j_aload_n C dX10_count_41 rfl rfl ?_
        refine j_get C dX10_count_42 jf_RX10_67 (wO mO) rfl ?_
        refine j_goto (tgt := 74) C dX10_count_45 (by decide) ?_
        refine hret _ _ _ _ dX10_count_74 rfl ?_
        refine ⟨?_, rfl⟩; simp [*]
    · skip
      refine j_aload_n C dX10_count_16 rfl rfl ?_
      refine j_get C dX10_count_17 jf_RX10_23 (wO mO) rfl ?_
      refine j_iconst (v := 0) C dX10_count_20 rfl ?_
      refine j_iald C (0) dX10_count_21 (wA mA4) (rfl) (by decide) (by decide) ?_
      refine j_aload_n C dX10_count_22 rfl rfl ?_
      refine j_get C dX10_count_23 jf_RX10_23 (wO mO) rfl ?_
      refine j_iconst (v := 1) C dX10_count_26 rfl ?_
      refine j_iald C (1) dX10_count_27 (wA mA4) (rfl) (by decide) (by decide) ?_
      refine j_callis C (c_X10_apart _ _ _ _ _ _ ) dX10_count_28 jm_RX10_318 ⟨by decide, by decide, by decide, by decide⟩ rfl (Nat.le_of_ble_eq_true rfl) (fun r z hz => ?_)
      obtain ⟨hr, hz⟩ := hz; have hr := hr.symm; have hz := hz.symm; subst hr; subst hz
      refine j_iconst (v := 1) C dX10_count_31 rfl ?_
      refine j_iadd C dX10_count_32 ?_
      refine j_goto (tgt := 74) C dX10_count_33 (by decide) ?_
      refine hret _ _ _ _ dX10_count_74 rfl ?_
      refine ⟨?_, rfl⟩; simp [*]
  · skip
    refine j_aload_n C dX10_count_4 rfl rfl ?_
    refine j_get C dX10_count_5 jf_RX10_70 (wO mO) rfl ?_
    refine j_goto (tgt := 74) C dX10_count_8 (by decide) ?_
    refine hret _ _ _ _ dX10_count_74 rfl ?_
    refine ⟨?_, rfl⟩; simp [*]
set_option maxHeartbeats 4000000 in
set_option maxRecDepth 100000 in
theorem c_X10_isSheet (l : Launch) (g : jG) {S : Type} (wd : S → va_W) (x : S) (s : Int32)  : Ci l g yX10_isSheet cX10_isSheet 1 .boolean 1 25 0 0 wd [.int s] x (fun r z => ((r = 1 ∧ (0 ≤ s ∧ s < 4)) ∨ (r = 0 ∧ ¬ (0 ≤ s ∧ s < 4))) ∧ z = x) := by
  refine mk_i (by decide +kernel) rfl (fun KK hKl hKg C hin hret => ?_)
  subst hKl; subst hKg
  refine j_lv (lv' := [(0, _)]) rfl ?_
  refine j_iload_n C dX10_isSheet_0 rfl rfl ?_
  refine j_i2l C dX10_isSheet_1 ?_
  refine j_lconst (v := 0) C dX10_isSheet_2 rfl ?_
  refine j_ldc2 C dX10_isSheet_3 jc_RX10_383 ?_
  refine j_callis C (c_X10_in _ _ _ _ _ _ _ ) dX10_isSheet_6 jm_RX10_73 ⟨by decide, by decide, by decide, by decide⟩ rfl (Nat.le_of_ble_eq_true rfl) (fun r z hz => ?_)
  obtain ⟨hb, hz⟩ := hz; have hz := hz.symm; subst hz
  rcases hb with ⟨rfl, b_1⟩ | ⟨rfl, b_1⟩
  · skip
    refine hret _ _ _ _ dX10_isSheet_9 (by first | rfl | exact bI_n) ?_
    exact ⟨Or.inl ⟨rfl, by simp only [Int32.lt_iff_toInt_lt, Int32.le_iff_toInt_le, ← Int32.toInt_inj, Int32.reduceToInt, Int64.lt_iff_toInt_lt, Int64.le_iff_toInt_le, Int32.toInt_toInt64, Int64.reduceToInt] at b_1 ⊢; omega⟩, rfl⟩
  · skip
    refine hret _ _ _ _ dX10_isSheet_9 (by first | rfl | exact bI_n) ?_
    exact ⟨Or.inr ⟨rfl, by simp only [Int32.lt_iff_toInt_lt, Int32.le_iff_toInt_le, ← Int32.toInt_inj, Int32.reduceToInt, Int64.lt_iff_toInt_lt, Int64.le_iff_toInt_le, Int32.toInt_toInt64, Int64.reduceToInt] at b_1 ⊢; omega⟩, rfl⟩
set_option maxHeartbeats 4000000 in
set_option maxRecDepth 100000 in
theorem c_X10_sheet (l : Launch) (g : jG) (a : Nat → Nat) (x : mS) (s : Int32) (t : Int32) (n : Int32)  : Ci l g yX10_sheet cX10_sheet 5 .int 2 45 0 0 (mW g a) [.ref (a 0), .int s, .int t, .int n] x (fun r z => if (0 ≤ s ∧ s < 4) ∧ (-1 ≤ t ∧ t ≤ 2) then (if t = -1 then r = 1 ∧ shY x z s.toNatClampNeg t n else if 40 < n then r = -2 ∧ z = x else if n < 0 then r = -14 ∧ z = x else r = 1 ∧ shY x z s.toNatClampNeg t n) else r = -2 ∧ z = x) := by
  refine mk_i (by decide +kernel) rfl (fun KK hKl hKg C hin hret => ?_)
  subst hKl; subst hKg
  refine j_lv (lv' := [(0, _), (1, _), (2, _), (3, _)]) rfl ?_
  refine j_iload_n C dX10_sheet_0 rfl rfl ?_
  refine j_callis C (c_X10_isSheet _ _ _ _ _ ) dX10_sheet_1 jm_RX10_365 ⟨by decide, by decide, by decide, by decide⟩ rfl (Nat.le_of_ble_eq_true rfl) (fun r z hz => ?_)
  obtain ⟨hb, hz⟩ := hz; have hz := hz.symm; subst hz
  rcases hb with ⟨rfl, b_1⟩ | ⟨rfl, b_1⟩
  · skip
    obtain ⟨i_1, hi_1, rfl⟩ := in_of (B := 4) b_1 rfl
    refine j_if_eq (tgt := 31) C dX10_sheet_4 (by decide) (fun c => absurd c (by decide)) (fun _ => ?_)
    refine j_iload_n C dX10_sheet_7 rfl rfl ?_
    refine j_i2l C dX10_sheet_8 ?_
    refine j_ldc2 C dX10_sheet_9 jc_RX10_363 ?_
    refine j_ldc2 C dX10_sheet_12 jc_RX10_340 ?_
    refine j_callis C (c_X10_in _ _ _ _ _ _ _ ) dX10_sheet_15 jm_RX10_73 ⟨by decide, by decide, by decide, by decide⟩ rfl (Nat.le_of_ble_eq_true rfl) (fun r z hz => ?_)
    obtain ⟨hb, hz⟩ := hz; have hz := hz.symm; subst hz
    rcases hb with ⟨rfl, b_15⟩ | ⟨rfl, b_15⟩
    · skip
      have ht2 : -1 ≤ t ∧ t ≤ 2 := by simp only [Int32.lt_iff_toInt_lt, Int32.le_iff_toInt_le, ← Int32.toInt_inj, Int32.reduceToInt, Int64.lt_iff_toInt_lt, Int64.le_iff_toInt_le, Int32.toInt_toInt64, Int64.reduceToInt] at b_15 ⊢; omega
      refine j_if_eq (tgt := 31) C dX10_sheet_18 (by decide) (fun c => absurd c (by decide)) (fun _ => ?_)
      refine j_iload_n C dX10_sheet_21 rfl rfl ?_
      refine j_if_lt (tgt := 34) C dX10_sheet_22 (by decide) (fun c_22 => ?_) (fun c_22 => ?_)
      · skip
        have ht : t = -1 := by simp only [Int32.lt_iff_toInt_lt, Int32.le_iff_toInt_le, ← Int32.toInt_inj, Int32.reduceToInt] at c_22 ht2 ⊢; omega
        refine j_iload_n C dX10_sheet_34 rfl rfl ?_
        refine j_if_lt (tgt := 45) C dX10_sheet_35 (by decide) (fun c_35 => ?_) (fun c_35 => ?_)
        · skip
          skip
          refine j_aload_n C dX10_sheet_45 rfl rfl ?_
          refine j_get C dX10_sheet_46 jf_RX10_50 (wO mO) rfl ?_
          refine j_iload_n C dX10_sheet_49 rfl rfl ?_
          refine j_iload_n C dX10_sheet_50 rfl rfl ?_
          refine j_if_lt (tgt := 58) C dX10_sheet_51 (by decide) (fun c_51 => ?_) (fun c_51 => ?_)
          · skip
            skip
            refine j_iconst (v := 0) C dX10_sheet_58 rfl ?_
            refine j_zast C (i_1) dX10_sheet_59 (wA mA12) (rfl) (hi_1) (by decide) (sMa mA12 _ _) ?_
            refine j_aload_n C dX10_sheet_60 rfl rfl ?_
            refine j_get C dX10_sheet_61 jf_RX10_54 (wO mO) rfl ?_
            refine j_iload_n C dX10_sheet_64 rfl rfl ?_
            refine j_iload_n C dX10_sheet_65 rfl rfl ?_
            refine j_iast C (i_1) dX10_sheet_66 (wA mA13) (rfl) (hi_1) (by decide) (sMa mA13 _ _) ?_
            refine j_aload_n C dX10_sheet_67 rfl rfl ?_
            refine j_get C dX10_sheet_68 jf_RX10_57 (wO mO) rfl ?_
            refine j_iload_n C dX10_sheet_71 rfl rfl ?_
            refine j_iload_n C dX10_sheet_72 rfl rfl ?_
            refine j_iast C (i_1) dX10_sheet_73 (wA mA14) (rfl) (hi_1) (by decide) (sMa mA14 _ _) ?_
            refine j_iconst (v := 0) C dX10_sheet_74 rfl ?_
            refine j_istore (lv' := [(4, _), (0, _), (1, _), (2, _), (3, _)]) C dX10_sheet_75 (by decide) rfl ?_
            have L_77 : ∀ k : Nat, ∀ (i : Nat) (x' : mS), i ≤ 40 → 40 < i + k → (0 ≤ t → (i : Int) ≤ n.toInt) → shQ x x' i_1 t n i → J KK (mW (kG KK) a) 0 0 x' [(0, .ref (a 0)), (1, .int (nI i_1)), (2, .int t), (3, .int n), (4, .int (nI i))] 77 [] := by
              intro k
              induction k with
              | zero => intro i x' h1 hk h2 hQ; omega
              | succ k ih =>
                intro i x' h1 hk h2 hQ
                have e_i : (nI i).toInt = i := nI_toInt (by omega)
                refine j_iload C dX10_sheet_77 rfl ?_
                refine j_iload_n C dX10_sheet_79 rfl rfl ?_
                refine j_icmp_ge (tgt := 106) C dX10_sheet_80 (by decide) (fun c_80 => ?_) (fun c_80 => ?_)
                · skip
                  refine j_iconst (v := 1) C dX10_sheet_106 rfl ?_
                  refine hret _ _ _ _ dX10_sheet_107 rfl ?_
                  rw [if_pos ⟨b_1, ht2⟩, nI_clamp (show i_1 < 2147483648 by omega)]
                  first
                    | (rw [if_pos ht]
                       obtain ⟨q1, q2, q3, q4, q5, q6, q7⟩ := hQ
                       exact ⟨rfl, q1, q2, q3, q4, q5, fun h => absurd ht h, q7⟩)
                    | exact absurd c_84 c_22
                    | (rw [if_neg ht, if_neg hn4, if_neg hn0]
                       have e : i = n.toNatClampNeg := by
                         have e1 := cl_toInt (i := n) (by simp only [Int32.lt_iff_toInt_lt, Int32.le_iff_toInt_le, ← Int32.toInt_inj, Int32.reduceToInt] at hn0 ⊢; omega)
                         have e2 := h2 (by simp only [Int32.lt_iff_toInt_lt, Int32.le_iff_toInt_le, ← Int32.toInt_inj, Int32.reduceToInt] at c_22 ⊢; omega)
                         simp only [Int32.lt_iff_toInt_lt, Int32.le_iff_toInt_le, ← Int32.toInt_inj, Int32.reduceToInt, e_i] at c_80
                         omega
                       exact ⟨rfl, (congrArg (shQ x x' i_1 t n) e).mp hQ⟩)
                · skip
                  refine j_iload_n C dX10_sheet_83 rfl rfl ?_
                  refine j_if_lt (tgt := 106) C dX10_sheet_84 (by decide) (fun c_84 => ?_) (fun c_84 => ?_)
                  · skip
                    refine j_iconst (v := 1) C dX10_sheet_106 rfl ?_
                    refine hret _ _ _ _ dX10_sheet_107 rfl ?_
                    rw [if_pos ⟨b_1, ht2⟩, nI_clamp (show i_1 < 2147483648 by omega)]
                    first
                      | (rw [if_pos ht]
                         obtain ⟨q1, q2, q3, q4, q5, q6, q7⟩ := hQ
                         exact ⟨rfl, q1, q2, q3, q4, q5, fun h => absurd ht h, q7⟩)
                      | exact absurd c_84 c_22
                      | (rw [if_neg ht, if_neg hn4, if_neg hn0]
                         have e : i = n.toNatClampNeg := by
                           have e1 := cl_toInt (i := n) (by simp only [Int32.lt_iff_toInt_lt, Int32.le_iff_toInt_le, ← Int32.toInt_inj, Int32.reduceToInt] at hn0 ⊢; omega)
                           have e2 := h2 (by simp only [Int32.lt_iff_toInt_lt, Int32.le_iff_toInt_le, ← Int32.toInt_inj, Int32.reduceToInt] at c_22 ⊢; omega)
                           simp only [Int32.lt_iff_toInt_lt, Int32.le_iff_toInt_le, ← Int32.toInt_inj, Int32.reduceToInt, e_i] at c_80
                           omega
                         exact ⟨rfl, (congrArg (shQ x x' i_1 t n) e).mp hQ⟩)
                  · skip
                    have hi40 : i < 40 := by simp only [Int32.lt_iff_toInt_lt, Int32.le_iff_toInt_le, ← Int32.toInt_inj, Int32.reduceToInt, e_i] at *; omega
                    refine j_aload_n C dX10_sheet_87 rfl rfl ?_
                    refine j_get C dX10_sheet_88 jf_RX10_60 (wO mO) rfl ?_
                    refine j_bipush (v := 40) C dX10_sheet_91 rfl ?_
                    refine j_iload_n C dX10_sheet_93 rfl rfl ?_
                    refine j_imul C dX10_sheet_94 ?_
                    refine j_iload C dX10_sheet_95 rfl ?_
                    refine j_iadd C dX10_sheet_97 ?_
                    refine j_iconst (v := 0) C dX10_sheet_98 rfl ?_
                    refine j_iast C (40 * i_1 + i) dX10_sheet_99 (wA mA15) ((congrArg (· + nI i) (pk_mul 40 i_1)).trans (nI_add (40 * i_1) i)) (by omega) (by decide) (sMa mA15 _ _) ?_
                    refine j_iinc (lv' := [(4, _), (0, _), (1, _), (2, _), (3, _)]) (v := nI (i + 1)) C dX10_sheet_100 rfl (j_inc1 i) (by decide) rfl ?_
                    refine j_goto (tgt := 77) C dX10_sheet_103 (by decide) ?_
                    refine j_lv (lv' := [(0, _), (1, _), (2, _), (3, _), (4, _)]) rfl ?_
                    obtain ⟨q1, q2, q3, q4, q5, q6, q7⟩ := hQ
                    exact ih (i + 1) _ (by omega) (by omega) (fun _ => by simp only [Int32.lt_iff_toInt_lt, Int32.le_iff_toInt_le, ← Int32.toInt_inj, Int32.reduceToInt, e_i] at c_80; omega) ⟨q1, by rw [mU_1, uM_ne (by decide)]; exact q2, by rw [mU_1, uM_ne (by decide)]; exact q3, by rw [mU_1, uM_ne (by decide)]; exact q4, fun j hj => by rw [mU_1, uM_n (by omega)]; exact q5 j hj, fun h j hj => by
                      by_cases hij : j = i
                      · subst hij; rw [mU_1, uM_s]
                      · rw [mU_1, uM_n (by omega)]; exact q6 h j (by omega), fun c hc => by rw [mU_1, uM_ne (by omega)]; exact q7 c hc⟩
            refine j_lv (lv' := [(0, _), (1, _), (2, _), (3, _), (4, _)]) rfl ?_
            exact L_77 41 0 _ (by omega) (by omega) (fun h => by simp only [Int32.lt_iff_toInt_lt, Int32.le_iff_toInt_le, ← Int32.toInt_inj, Int32.reduceToInt] at *; omega) ⟨rfl, by
              rw [mU_1, uM_ne (by decide), mU_1, uM_ne (by decide), mU_1, uM_eq]
              first | (rw [if_pos ht]; exact congrArg (upd _ _) (by decide)) | (rw [if_neg ht]; exact congrArg (upd _ _) (by decide)), by rw [mU_1, uM_ne (by decide), mU_1, uM_eq, mU_1, uM_ne (by decide)], by rw [mU_1, uM_eq, mU_1, uM_ne (by decide), mU_1, uM_ne (by decide)], fun j _ => by rw [mU_1, uM_ne (by decide), mU_1, uM_ne (by decide), mU_1, uM_ne (by decide)], fun _ j hj => absurd hj (by omega), fun c hc => by rw [mU_1, uM_ne (by omega), mU_1, uM_ne (by omega), mU_1, uM_ne (by omega)]⟩
          · skip
            exact absurd c_22 c_51
        · skip
          exact absurd c_22 c_35
      · skip
        have ht : ¬ t = -1 := by simp only [Int32.lt_iff_toInt_lt, Int32.le_iff_toInt_le, ← Int32.toInt_inj, Int32.reduceToInt] at c_22 ⊢; omega
        refine j_iload_n C dX10_sheet_25 rfl rfl ?_
        refine j_bipush (v := 40) C dX10_sheet_26 rfl ?_
        refine j_icmp_le (tgt := 34) C dX10_sheet_28 (by decide) (fun c_28 => ?_) (fun c_28 => ?_)
        · skip
          have hn4 : ¬ 40 < n := by simp only [Int32.lt_iff_toInt_lt, Int32.le_iff_toInt_le, ← Int32.toInt_inj, Int32.reduceToInt] at c_28 ⊢; omega
          refine j_iload_n C dX10_sheet_34 rfl rfl ?_
          refine j_if_lt (tgt := 45) C dX10_sheet_35 (by decide) (fun c_35 => ?_) (fun c_35 => ?_)
          · skip
            exact absurd c_35 c_22
          · skip
            skip
            refine j_iload_n C dX10_sheet_38 rfl rfl ?_
            refine j_if_ge (tgt := 45) C dX10_sheet_39 (by decide) (fun c_39 => ?_) (fun c_39 => ?_)
            · skip
              have hn0 : ¬ n < 0 := by simp only [Int32.lt_iff_toInt_lt, Int32.le_iff_toInt_le, ← Int32.toInt_inj, Int32.reduceToInt] at c_39 ⊢; omega
              refine j_aload_n C dX10_sheet_45 rfl rfl ?_
              refine j_get C dX10_sheet_46 jf_RX10_50 (wO mO) rfl ?_
              refine j_iload_n C dX10_sheet_49 rfl rfl ?_
              refine j_iload_n C dX10_sheet_50 rfl rfl ?_
              refine j_if_lt (tgt := 58) C dX10_sheet_51 (by decide) (fun c_51 => ?_) (fun c_51 => ?_)
              · skip
                exact absurd c_51 c_22
              · skip
                skip
                refine j_iconst (v := 1) C dX10_sheet_54 rfl ?_
                refine j_goto (tgt := 59) C dX10_sheet_55 (by decide) ?_
                refine j_zast C (i_1) dX10_sheet_59 (wA mA12) (rfl) (hi_1) (by decide) (sMa mA12 _ _) ?_
                refine j_aload_n C dX10_sheet_60 rfl rfl ?_
                refine j_get C dX10_sheet_61 jf_RX10_54 (wO mO) rfl ?_
                refine j_iload_n C dX10_sheet_64 rfl rfl ?_
                refine j_iload_n C dX10_sheet_65 rfl rfl ?_
                refine j_iast C (i_1) dX10_sheet_66 (wA mA13) (rfl) (hi_1) (by decide) (sMa mA13 _ _) ?_
                refine j_aload_n C dX10_sheet_67 rfl rfl ?_
                refine j_get C dX10_sheet_68 jf_RX10_57 (wO mO) rfl ?_
                refine j_iload_n C dX10_sheet_71 rfl rfl ?_
                refine j_iload_n C dX10_sheet_72 rfl rfl ?_
                refine j_iast C (i_1) dX10_sheet_73 (wA mA14) (rfl) (hi_1) (by decide) (sMa mA14 _ _) ?_
                refine j_iconst (v := 0) C dX10_sheet_74 rfl ?_
                refine j_istore (lv' := [(4, _), (0, _), (1, _), (2, _), (3, _)]) C dX10_sheet_75 (by decide) rfl ?_
                have L_77 : ∀ k : Nat, ∀ (i : Nat) (x' : mS), i ≤ 40 → 40 < i + k → (0 ≤ t → (i : Int) ≤ n.toInt) → shQ x x' i_1 t n i → J KK (mW (kG KK) a) 0 0 x' [(0, .ref (a 0)), (1, .int (nI i_1)), (2, .int t), (3, .int n), (4, .int (nI i))] 77 [] := by
                  intro k
                  induction k with
                  | zero => intro i x' h1 hk h2 hQ; omega
                  | succ k ih =>
                    intro i x' h1 hk h2 hQ
                    have e_i : (nI i).toInt = i := nI_toInt (by omega)
                    refine j_iload C dX10_sheet_77 rfl ?_
                    refine j_iload_n C dX10_sheet_79 rfl rfl ?_
                    refine j_icmp_ge (tgt := 106) C dX10_sheet_80 (by decide) (fun c_80 => ?_) (fun c_80 => ?_)
                    · skip
                      refine j_iconst (v := 1) C dX10_sheet_106 rfl ?_
                      refine hret _ _ _ _ dX10_sheet_107 rfl ?_
                      rw [if_pos ⟨b_1, ht2⟩, nI_clamp (show i_1 < 2147483648 by omega)]
                      first
                        | (rw [if_pos ht]
                           obtain ⟨q1, q2, q3, q4, q5, q6, q7⟩ := hQ
                           exact ⟨rfl, q1, q2, q3, q4, q5, fun h => absurd ht h, q7⟩)
                        | exact absurd c_84 c_22
                        | (rw [if_neg ht, if_neg hn4, if_neg hn0]
                           have e : i = n.toNatClampNeg := by
                             have e1 := cl_toInt (i := n) (by simp only [Int32.lt_iff_toInt_lt, Int32.le_iff_toInt_le, ← Int32.toInt_inj, Int32.reduceToInt] at hn0 ⊢; omega)
                             have e2 := h2 (by simp only [Int32.lt_iff_toInt_lt, Int32.le_iff_toInt_le, ← Int32.toInt_inj, Int32.reduceToInt] at c_22 ⊢; omega)
                             simp only [Int32.lt_iff_toInt_lt, Int32.le_iff_toInt_le, ← Int32.toInt_inj, Int32.reduceToInt, e_i] at c_80
                             omega
                           exact ⟨rfl, (congrArg (shQ x x' i_1 t n) e).mp hQ⟩)
                    · skip
                      refine j_iload_n C dX10_sheet_83 rfl rfl ?_
                      refine j_if_lt (tgt := 106) C dX10_sheet_84 (by decide) (fun c_84 => ?_) (fun c_84 => ?_)
                      · skip
                        refine j_iconst (v := 1) C dX10_sheet_106 rfl ?_
                        refine hret _ _ _ _ dX10_sheet_107 rfl ?_
                        rw [if_pos ⟨b_1, ht2⟩, nI_clamp (show i_1 < 2147483648 by omega)]
                        first
                          | (rw [if_pos ht]
                             obtain ⟨q1, q2, q3, q4, q5, q6, q7⟩ := hQ
                             exact ⟨rfl, q1, q2, q3, q4, q5, fun h => absurd ht h, q7⟩)
                          | exact absurd c_84 c_22
                          | (rw [if_neg ht, if_neg hn4, if_neg hn0]
                             have e : i = n.toNatClampNeg := by
                               have e1 := cl_toInt (i := n) (by simp only [Int32.lt_iff_toInt_lt, Int32.le_iff_toInt_le, ← Int32.toInt_inj, Int32.reduceToInt] at hn0 ⊢; omega)
                               have e2 := h2 (by simp only [Int32.lt_iff_toInt_lt, Int32.le_iff_toInt_le, ← Int32.toInt_inj, Int32.reduceToInt] at c_22 ⊢; omega)
                               simp only [Int32.lt_iff_toInt_lt, Int32.le_iff_toInt_le, ← Int32.toInt_inj, Int32.reduceToInt, e_i] at c_80
                               omega
                             exact ⟨rfl, (congrArg (shQ x x' i_1 t n) e).mp hQ⟩)
                      · skip
                        have hi40 : i < 40 := by simp only [Int32.lt_iff_toInt_lt, Int32.le_iff_toInt_le, ← Int32.toInt_inj, Int32.reduceToInt, e_i] at *; omega
                        refine j_aload_n C dX10_sheet_87 rfl rfl ?_
                        refine j_get C dX10_sheet_88 jf_RX10_60 (wO mO) rfl ?_
                        refine j_bipush (v := 40) C dX10_sheet_91 rfl ?_
                        refine j_iload_n C dX10_sheet_93 rfl rfl ?_
                        refine j_imul C dX10_sheet_94 ?_
                        refine j_iload C dX10_sheet_95 rfl ?_
                        refine j_iadd C dX10_sheet_97 ?_
                        refine j_iconst (v := 0) C dX10_sheet_98 rfl ?_
                        refine j_iast C (40 * i_1 + i) dX10_sheet_99 (wA mA15) ((congrArg (· + nI i) (pk_mul 40 i_1)).trans (nI_add (40 * i_1) i)) (by omega) (by decide) (sMa mA15 _ _) ?_
                        refine j_iinc (lv' := [(4, _), (0, _), (1, _), (2, _), (3, _)]) (v := nI (i + 1)) C dX10_sheet_100 rfl (j_inc1 i) (by decide) rfl ?_
                        refine j_goto (tgt := 77) C dX10_sheet_103 (by decide) ?_
                        refine j_lv (lv' := [(0, _), (1, _), (2, _), (3, _), (4, _)]) rfl ?_
                        obtain ⟨q1, q2, q3, q4, q5, q6, q7⟩ := hQ
                        exact ih (i + 1) _ (by omega) (by omega) (fun _ => by simp only [Int32.lt_iff_toInt_lt, Int32.le_iff_toInt_le, ← Int32.toInt_inj, Int32.reduceToInt, e_i] at c_80; omega) ⟨q1, by rw [mU_1, uM_ne (by decide)]; exact q2, by rw [mU_1, uM_ne (by decide)]; exact q3, by rw [mU_1, uM_ne (by decide)]; exact q4, fun j hj => by rw [mU_1, uM_n (by omega)]; exact q5 j hj, fun h j hj => by
                          by_cases hij : j = i
                          · subst hij; rw [mU_1, uM_s]
                          · rw [mU_1, uM_n (by omega)]; exact q6 h j (by omega), fun c hc => by rw [mU_1, uM_ne (by omega)]; exact q7 c hc⟩
                refine j_lv (lv' := [(0, _), (1, _), (2, _), (3, _), (4, _)]) rfl ?_
                exact L_77 41 0 _ (by omega) (by omega) (fun h => by simp only [Int32.lt_iff_toInt_lt, Int32.le_iff_toInt_le, ← Int32.toInt_inj, Int32.reduceToInt] at *; omega) ⟨rfl, by
                  rw [mU_1, uM_ne (by decide), mU_1, uM_ne (by decide), mU_1, uM_eq]
                  first | (rw [if_pos ht]; exact congrArg (upd _ _) (by decide)) | (rw [if_neg ht]; exact congrArg (upd _ _) (by decide)), by rw [mU_1, uM_ne (by decide), mU_1, uM_eq, mU_1, uM_ne (by decide)], by rw [mU_1, uM_eq, mU_1, uM_ne (by decide), mU_1, uM_ne (by decide)], fun j _ => by rw [mU_1, uM_ne (by decide), mU_1, uM_ne (by decide), mU_1, uM_ne (by decide)], fun _ j hj => absurd hj (by omega), fun c hc => by rw [mU_1, uM_ne (by omega), mU_1, uM_ne (by omega), mU_1, uM_ne (by omega)]⟩
            · skip
              have hn0 : n < 0 := by simp only [Int32.lt_iff_toInt_lt, Int32.le_iff_toInt_le, ← Int32.toInt_inj, Int32.reduceToInt] at c_39 ⊢; omega
              refine j_bipush (v := -14) C dX10_sheet_42 rfl ?_
              refine hret _ _ _ _ dX10_sheet_44 rfl ?_
              rw [if_pos ⟨b_1, ht2⟩, if_neg ht, if_neg hn4, if_pos hn0]; exact ⟨rfl, rfl⟩
        · skip
          have hn4 : 40 < n := by simp only [Int32.lt_iff_toInt_lt, Int32.le_iff_toInt_le, ← Int32.toInt_inj, Int32.reduceToInt] at c_28 ⊢; omega
          refine j_bipush (v := -2) C dX10_sheet_31 rfl ?_
          refine hret _ _ _ _ dX10_sheet_33 rfl ?_
          rw [if_pos ⟨b_1, ht2⟩, if_neg ht, if_pos hn4]; exact ⟨rfl, rfl⟩
    · skip
      refine j_if_eq (tgt := 31) C dX10_sheet_18 (by decide) (fun _ => ?_) (fun c => absurd (by decide) c)
      refine j_bipush (v := -2) C dX10_sheet_31 rfl ?_
      refine hret _ _ _ _ dX10_sheet_33 rfl ?_
      rw [if_neg (fun h => b_15 (by have := h.2; simp only [Int32.lt_iff_toInt_lt, Int32.le_iff_toInt_le, ← Int32.toInt_inj, Int32.reduceToInt, Int64.lt_iff_toInt_lt, Int64.le_iff_toInt_le, Int32.toInt_toInt64, Int64.reduceToInt] at this ⊢; omega))]; exact ⟨rfl, rfl⟩
  · skip
    refine j_if_eq (tgt := 31) C dX10_sheet_4 (by decide) (fun _ => ?_) (fun c => absurd (by decide) c)
    refine j_bipush (v := -2) C dX10_sheet_31 rfl ?_
    refine hret _ _ _ _ dX10_sheet_33 rfl ?_
    rw [if_neg (fun h => b_1 h.1)]; exact ⟨rfl, rfl⟩
set_option maxHeartbeats 4000000 in
set_option maxRecDepth 100000 in
theorem c_X10_cell (l : Launch) (g : jG) (a : Nat → Nat) (x : mS) (s : Int32) (i : Int32) (v : Int32) (h40 : ∀ i, i < 4 → ¬ x.1 12 i = 0 → ∃ sz, sz ≤ 40 ∧ x.1 14 i = nI sz) : Ci l g yX10_cell cX10_cell 4 .int 2 45 0 0 (mW g a) [.ref (a 0), .int s, .int i, .int v] x (fun r z => if 0 ≤ s ∧ s < 4 then (if x.1 12 s.toNatClampNeg = 0 then r = -11 ∧ z = x else if 0 ≤ i ∧ i < x.1 14 s.toNatClampNeg then r = 1 ∧ z = mU x 15 (40 * s.toNatClampNeg + i.toNatClampNeg) (if x.1 13 s.toNatClampNeg = 0 then v.toInt8.toInt32 else if x.1 13 s.toNatClampNeg = 1 then v.toInt16.toInt32 else v) else r = -12 ∧ z = x) else r = -2 ∧ z = x) := by
  refine mk_i (by decide +kernel) rfl (fun KK hKl hKg C hin hret => ?_)
  subst hKl; subst hKg
  refine j_lv (lv' := [(0, _), (1, _), (2, _), (3, _)]) rfl ?_
  refine j_iload_n C dX10_cell_0 rfl rfl ?_
  refine j_callis C (c_X10_isSheet _ _ _ _ _ ) dX10_cell_1 jm_RX10_365 ⟨by decide, by decide, by decide, by decide⟩ rfl (Nat.le_of_ble_eq_true rfl) (fun r z hz => ?_)
  obtain ⟨hb, hz⟩ := hz; have hz := hz.symm; subst hz
  rcases hb with ⟨rfl, b_1⟩ | ⟨rfl, b_1⟩
  · skip
    obtain ⟨i_1, hi_1, rfl⟩ := in_of (B := 4) b_1 rfl
    refine j_if_ne (tgt := 10) C dX10_cell_4 (by decide) (fun _ => ?_) (fun c => absurd c (by decide))
    refine j_aload_n C dX10_cell_10 rfl rfl ?_
    refine j_get C dX10_cell_11 jf_RX10_50 (wO mO) rfl ?_
    refine j_iload_n C dX10_cell_14 rfl rfl ?_
    refine j_zald C (i_1) dX10_cell_15 (wA mA12) (rfl) (hi_1) (by decide) ?_
    refine j_if_ne (tgt := 22) C dX10_cell_16 (by decide) (fun c_16 => ?_) (fun c_16 => ?_)
    · skip
      obtain ⟨sz, hsz, esz⟩ := h40 i_1 hi_1 c_16
      have e_sz : (nI sz).toInt = sz := nI_toInt (by omega)
      have e1_sz : (nI sz - 1).toInt = (sz : Int) - 1 := by rw [i32_sub] <;> rw [e_sz] <;> simp <;> omega
      refine j_iload_n C dX10_cell_22 rfl rfl ?_
      refine j_i2l C dX10_cell_23 ?_
      refine j_lconst (v := 0) C dX10_cell_24 rfl ?_
      refine j_aload_n C dX10_cell_25 rfl rfl ?_
      refine j_get C dX10_cell_26 jf_RX10_57 (wO mO) rfl ?_
      refine j_iload_n C dX10_cell_29 rfl rfl ?_
      refine j_iald C (i_1) dX10_cell_30 (wA mA14) (rfl) (hi_1) (by decide) ?_
      refine j_iconst (v := 1) C dX10_cell_31 rfl ?_
      refine j_isub C dX10_cell_32 ?_
      refine j_i2l C dX10_cell_33 ?_
      refine j_callis C (c_X10_in _ _ _ _ _ _ _ ) dX10_cell_34 jm_RX10_73 ⟨by decide, by decide, by decide, by decide⟩ rfl (Nat.le_of_ble_eq_true rfl) (fun r z hz => ?_)
      obtain ⟨hb, hz⟩ := hz; have hz := hz.symm; subst hz
      rcases hb with ⟨rfl, b_34⟩ | ⟨rfl, b_34⟩
      · skip
        have hi : 0 ≤ i ∧ i < x.1 14 i_1 := by rw [esz] at b_34 ⊢; simp only [Int32.lt_iff_toInt_lt, Int32.le_iff_toInt_le, ← Int32.toInt_inj, Int32.reduceToInt, Int64.lt_iff_toInt_lt, Int64.le_iff_toInt_le, Int32.toInt_toInt64, Int64.reduceToInt, e_sz, e1_sz] at b_34 ⊢; omega
        have hi4 := cl_lt hi.1 hi.2 esz (by omega)
        have ei : i = nI i.toNatClampNeg := cl_nI hi.1
        refine j_if_ne (tgt := 43) C dX10_cell_37 (by decide) (fun _ => ?_) (fun c => absurd c (by decide))
        refine j_aload_n C dX10_cell_43 rfl rfl ?_
        refine j_get C dX10_cell_44 jf_RX10_60 (wO mO) rfl ?_
        refine j_bipush (v := 40) C dX10_cell_47 rfl ?_
        refine j_iload_n C dX10_cell_49 rfl rfl ?_
        refine j_imul C dX10_cell_50 ?_
        refine j_iload_n C dX10_cell_51 rfl rfl ?_
        refine j_iadd C dX10_cell_52 ?_
        refine j_aload_n C dX10_cell_53 rfl rfl ?_
        refine j_get C dX10_cell_54 jf_RX10_54 (wO mO) rfl ?_
        refine j_iload_n C dX10_cell_57 rfl rfl ?_
        refine j_iald C (i_1) dX10_cell_58 (wA mA13) (rfl) (hi_1) (by decide) ?_
        refine j_if_ne (tgt := 67) C dX10_cell_59 (by decide) (fun c_59 => ?_) (fun c_59 => ?_)
        · skip
          refine j_aload_n C dX10_cell_67 rfl rfl ?_
          refine j_get C dX10_cell_68 jf_RX10_54 (wO mO) rfl ?_
          refine j_iload_n C dX10_cell_71 rfl rfl ?_
          refine j_iald C (i_1) dX10_cell_72 (wA mA13) (rfl) (hi_1) (by decide) ?_
          refine j_iconst (v := 1) C dX10_cell_73 rfl ?_
          refine j_icmp_ne (tgt := 82) C dX10_cell_74 (by decide) (fun c_74 => ?_) (fun c_74 => ?_)
          · skip
            refine j_iload_n C dX10_cell_82 rfl rfl ?_
            refine j_iast C (40 * i_1 + i.toNatClampNeg) dX10_cell_83 (wA mA15) (by
                  have e2 : (40 : Int32) * nI i_1 + nI i.toNatClampNeg = nI (40 * i_1 + i.toNatClampNeg) := (congrArg (· + nI i.toNatClampNeg) (pk_mul 40 i_1)).trans (nI_add (40 * i_1) i.toNatClampNeg)
                  rw [← ei] at e2
                  exact e2) (by omega) (by decide) (sMa mA15 _ _) ?_
            refine j_iconst (v := 1) C dX10_cell_84 rfl ?_
            refine hret _ _ _ _ dX10_cell_85 rfl ?_
            rw [if_pos b_1, nI_clamp (show i_1 < 2147483648 by omega), if_neg c_16, if_pos hi]
            refine ⟨rfl, ?_⟩
            first | rw [if_pos c_59] | rw [if_neg c_59, if_pos c_74] | rw [if_neg c_59, if_neg c_74]
          · skip
            refine j_iload_n C dX10_cell_77 rfl rfl ?_
            refine j_i2s C dX10_cell_78 ?_
            refine j_goto (tgt := 83) C dX10_cell_79 (by decide) ?_
            refine j_iast C (40 * i_1 + i.toNatClampNeg) dX10_cell_83 (wA mA15) (by
                  have e2 : (40 : Int32) * nI i_1 + nI i.toNatClampNeg = nI (40 * i_1 + i.toNatClampNeg) := (congrArg (· + nI i.toNatClampNeg) (pk_mul 40 i_1)).trans (nI_add (40 * i_1) i.toNatClampNeg)
                  rw [← ei] at e2
                  exact e2) (by omega) (by decide) (sMa mA15 _ _) ?_
            refine j_iconst (v := 1) C dX10_cell_84 rfl ?_
            refine hret _ _ _ _ dX10_cell_85 rfl ?_
            rw [if_pos b_1, nI_clamp (show i_1 < 2147483648 by omega), if_neg c_16, if_pos hi]
            refine ⟨rfl, ?_⟩
            first | rw [if_pos c_59] | rw [if_neg c_59, if_pos c_74] | rw [if_neg c_59, if_neg c_74]
        · skip
          refine j_iload_n C dX10_cell_62 rfl rfl ?_
          refine j_i2b C dX10_cell_63 ?_
          refine j_goto (tgt := 83) C dX10_cell_64 (by decide) ?_
          refine j_iast C (40 * i_1 + i.toNatClampNeg) dX10_cell_83 (wA mA15) (by
                have e2 : (40 : Int32) * nI i_1 + nI i.toNatClampNeg = nI (40 * i_1 + i.toNatClampNeg) := (congrArg (· + nI i.toNatClampNeg) (pk_mul 40 i_1)).trans (nI_add (40 * i_1) i.toNatClampNeg)
                rw [← ei] at e2
                exact e2) (by omega) (by decide) (sMa mA15 _ _) ?_
          refine j_iconst (v := 1) C dX10_cell_84 rfl ?_
          refine hret _ _ _ _ dX10_cell_85 rfl ?_
          rw [if_pos b_1, nI_clamp (show i_1 < 2147483648 by omega), if_neg c_16, if_pos hi]
          refine ⟨rfl, ?_⟩
          first | rw [if_pos c_59] | rw [if_neg c_59, if_pos c_74] | rw [if_neg c_59, if_neg c_74]
      · skip
        have hi : ¬ (0 ≤ i ∧ i < x.1 14 i_1) := by rw [esz] at b_34 ⊢; simp only [Int32.lt_iff_toInt_lt, Int32.le_iff_toInt_le, ← Int32.toInt_inj, Int32.reduceToInt, Int64.lt_iff_toInt_lt, Int64.le_iff_toInt_le, Int32.toInt_toInt64, Int64.reduceToInt, e_sz, e1_sz] at b_34 ⊢; omega
        refine j_if_ne (tgt := 43) C dX10_cell_37 (by decide) (fun c => absurd (by decide) c) (fun _ => ?_)
        refine j_bipush (v := -12) C dX10_cell_40 rfl ?_
        refine hret _ _ _ _ dX10_cell_42 rfl ?_
        rw [if_pos b_1, nI_clamp (show i_1 < 2147483648 by omega), if_neg c_16, if_neg hi]; exact ⟨rfl, rfl⟩
    · skip
      refine j_bipush (v := -11) C dX10_cell_19 rfl ?_
      refine hret _ _ _ _ dX10_cell_21 rfl ?_
      rw [if_pos b_1, nI_clamp (show i_1 < 2147483648 by omega), if_pos c_16]; exact ⟨rfl, rfl⟩
  · skip
    refine j_if_ne (tgt := 10) C dX10_cell_4 (by decide) (fun c => absurd (by decide) c) (fun _ => ?_)
    refine j_bipush (v := -2) C dX10_cell_7 rfl ?_
    refine hret _ _ _ _ dX10_cell_9 rfl ?_
    rw [if_neg b_1]; exact ⟨rfl, rfl⟩
set_option maxHeartbeats 4000000 in
set_option maxRecDepth 100000 in
theorem c_X10_over (l : Launch) (g : jG) {S : Type} (wd : S → va_W) (x : S) (k : Int32)  : Ci l g yX10_over cX10_over 1 .int 0 0 0 0 wd [.int k] x (fun r z => r = ovS k ∧ z = x) := by
  refine mk_i (by decide +kernel) rfl (fun KK hKl hKg C hin hret => ?_)
  subst hKl; subst hKg
  refine j_lv (lv' := [(0, _)]) rfl ?_
  refine j_iload_n C dX10_over_0 rfl rfl ?_
  refine j_if_ne (tgt := 8) C dX10_over_1 (by decide) (fun c_1 => ?_) (fun c_1 => ?_)
  · skip
    refine j_iload_n C dX10_over_8 rfl rfl ?_
    refine j_iconst (v := 3) C dX10_over_9 rfl ?_
    refine j_icmp_ne (tgt := 17) C dX10_over_10 (by decide) (fun c_2 => ?_) (fun c_2 => ?_)
    · skip
      refine j_iload_n C dX10_over_17 rfl rfl ?_
      refine j_iconst (v := 4) C dX10_over_18 rfl ?_
      refine j_icmp_ne (tgt := 26) C dX10_over_19 (by decide) (fun c_3 => ?_) (fun c_3 => ?_)
      · skip
        refine j_iconst (v := 0) C dX10_over_26 rfl ?_
        refine hret _ _ _ _ dX10_over_27 rfl ?_
        refine ⟨?_, rfl⟩; unfold ovS; first | (rw [if_pos c_1]; done) | (rw [if_neg c_1, if_pos c_2]; done) | (rw [if_neg c_1, if_neg c_2, if_pos c_3]; done) | (rw [if_neg c_1, if_neg c_2, if_neg c_3]; done)
      · skip
        refine j_iconst (v := 2) C dX10_over_22 rfl ?_
        refine j_goto (tgt := 27) C dX10_over_23 (by decide) ?_
        refine hret _ _ _ _ dX10_over_27 rfl ?_
        refine ⟨?_, rfl⟩; unfold ovS; first | (rw [if_pos c_1]; done) | (rw [if_neg c_1, if_pos c_2]; done) | (rw [if_neg c_1, if_neg c_2, if_pos c_3]; done) | (rw [if_neg c_1, if_neg c_2, if_neg c_3]; done)
    · skip
      refine j_iconst (v := 1) C dX10_over_13 rfl ?_
      refine j_goto (tgt := 27) C dX10_over_14 (by decide) ?_
      refine hret _ _ _ _ dX10_over_27 rfl ?_
      refine ⟨?_, rfl⟩; unfold ovS; first | (rw [if_pos c_1]; done) | (rw [if_neg c_1, if_pos c_2]; done) | (rw [if_neg c_1, if_neg c_2, if_pos c_3]; done) | (rw [if_neg c_1, if_neg c_2, if_neg c_3]; done)
  · skip
    refine j_iconst (v := -1) C dX10_over_4 rfl ?_
    refine j_goto (tgt := 27) C dX10_over_5 (by decide) ?_
    refine hret _ _ _ _ dX10_over_27 rfl ?_
    refine ⟨?_, rfl⟩; unfold ovS; first | (rw [if_pos c_1]; done) | (rw [if_neg c_1, if_pos c_2]; done) | (rw [if_neg c_1, if_neg c_2, if_pos c_3]; done) | (rw [if_neg c_1, if_neg c_2, if_neg c_3]; done)
set_option maxHeartbeats 4000000 in
set_option maxRecDepth 100000 in
theorem c_X10_taken (l : Launch) (g : jG) (a : Nat → Nat) (x : mS) (p : Int32) (q : Int32) (n : Nat) (hn : mnR x n) (hkd : ∀ i, i < n → 0 ≤ x.1 5 i ∧ x.1 5 i < 6) : Ci l g yX10_taken cX10_taken 4 .int 2 46 0 0 (mW g a) [.ref (a 0), .int p, .int q] x (fun r z => r = (if 0 ≤ q ∧ q < 6 then (if 0 ≤ p ∧ p < x.1 0 10 then (@ite _ (undF q 6 (x.1 5 p.toNatClampNeg)) (Classical.propDecidable _) (x.1 6 (4 * p.toNatClampNeg)) (-13)) else -11) else -2) ∧ z = x) := by
  refine mk_i (by decide +kernel) rfl (fun KK hKl hKg C hin hret => ?_)
  subst hKl; subst hKg
  refine j_lv (lv' := [(0, _), (1, _), (2, _)]) rfl ?_
  have hn6 := hn.2
  refine j_iload_n C dX10_taken_0 rfl rfl ?_
  refine j_i2l C dX10_taken_1 ?_
  refine j_lconst (v := 0) C dX10_taken_2 rfl ?_
  refine j_ldc2 C dX10_taken_3 jc_RX10_98 ?_
  refine j_callis C (c_X10_in _ _ _ _ _ _ _ ) dX10_taken_6 jm_RX10_73 ⟨by decide, by decide, by decide, by decide⟩ rfl (Nat.le_of_ble_eq_true rfl) (fun r z hz => ?_)
  obtain ⟨hb, hz⟩ := hz; have hz := hz.symm; subst hz
  rcases hb with ⟨rfl, b_6⟩ | ⟨rfl, b_6⟩
  · skip
    have hq : 0 ≤ q ∧ q < 6 := by simp only [Int32.lt_iff_toInt_lt, Int32.le_iff_toInt_le, ← Int32.toInt_inj, Int32.reduceToInt, Int64.lt_iff_toInt_lt, Int64.le_iff_toInt_le, Int32.toInt_toInt64, Int64.reduceToInt] at b_6 ⊢; omega
    refine j_if_ne (tgt := 15) C dX10_taken_9 (by decide) (fun _ => ?_) (fun c => absurd c (by decide))
    refine j_aload_n C dX10_taken_15 rfl rfl ?_
    refine j_iload_n C dX10_taken_16 rfl rfl ?_
    refine j_calliv C (c_X10_isGlove _ _ _ _ _ n hn) dX10_taken_17 jm_RX10_79 ⟨_, _, _, _, wO mO, rfl, rfl⟩ ⟨by decide, by decide, by decide, by decide⟩ rfl (Nat.le_of_ble_eq_true rfl) (fun r z hz => ?_)
    obtain ⟨hb, hz⟩ := hz; have hz := hz.symm; subst hz
    rcases hb with ⟨rfl, b_17⟩ | ⟨rfl, b_17⟩
    · skip
      obtain ⟨i, hi, rfl⟩ := in_of (B := n) b_17 hn.1 (by omega)
      have hi6 : i < 6 := by omega
      have hK := hkd i hi
      refine j_if_ne (tgt := 26) C dX10_taken_20 (by decide) (fun _ => ?_) (fun c => absurd c (by decide))
      refine j_aload_n C dX10_taken_26 rfl rfl ?_
      refine j_get C dX10_taken_27 jf_RX10_26 (wO mO) rfl ?_
      refine j_iload_n C dX10_taken_30 rfl rfl ?_
      refine j_iald C (i) dX10_taken_31 (wA mA5) (rfl) (hi6) (by decide) ?_
      refine j_istore_n (lv' := [(3, _), (0, _), (1, _), (2, _)]) C dX10_taken_32 rfl (by decide) rfl ?_
      have L_33 : ∀ k : Nat, ∀ (y : Int32), rkS y < k → (-1 ≤ y ∧ y < 6) → (undF q 6 (x.1 5 i) ↔ undF q 6 y) → J KK (mW (kG KK) a) 0 0 x [(0, .ref (a 0)), (1, .int (nI i)), (2, .int q), (3, .int y)] 33 [] := by
        intro k
        induction k with
        | zero => intro y hk hy hu; omega
        | succ k ih =>
          intro y hk hy hu
          refine j_iload_n C dX10_taken_33 rfl rfl ?_
          refine j_iconst (v := -1) C dX10_taken_34 rfl ?_
          refine j_icmp_eq (tgt := 51) C dX10_taken_35 (by decide) (fun c_35 => ?_) (fun c_35 => ?_)
          · skip
            refine j_iload_n C dX10_taken_51 rfl rfl ?_
            refine j_iload_n C dX10_taken_52 rfl rfl ?_
            refine j_icmp_ne (tgt := 67) C dX10_taken_53 (by decide) (fun c_53 => ?_) (fun c_53 => ?_)
            · skip
              refine j_bipush (v := -13) C dX10_taken_67 rfl ?_
              refine hret _ _ _ _ dX10_taken_69 rfl ?_
              refine ⟨?_, rfl⟩
              rw [if_pos hq, if_pos b_17, nI_clamp (show i < 2147483648 by omega)]
              first
                | (subst c_53; exact (if_pos (hu.mpr (un_eq hq))).symm)
                | (have e : y = -1 := by first | exact c_35 | exact absurd c_40 c_53
                   subst e
                   exact (if_neg (fun h => un_no (hu.mp h))).symm)
            · skip
              refine j_aload_n C dX10_taken_56 rfl rfl ?_
              refine j_get C dX10_taken_57 jf_RX10_29 (wO mO) rfl ?_
              refine j_iconst (v := 4) C dX10_taken_60 rfl ?_
              refine j_iload_n C dX10_taken_61 rfl rfl ?_
              refine j_imul C dX10_taken_62 ?_
              refine j_iald C (4 * i) dX10_taken_63 (wA mA6) (pk_mul 4 i) (by omega) (by decide) ?_
              refine j_goto (tgt := 69) C dX10_taken_64 (by decide) ?_
              refine hret _ _ _ _ dX10_taken_69 rfl ?_
              refine ⟨?_, rfl⟩
              rw [if_pos hq, if_pos b_17, nI_clamp (show i < 2147483648 by omega)]
              first
                | (subst c_53; exact (if_pos (hu.mpr (un_eq hq))).symm)
                | (have e : y = -1 := by first | exact c_35 | exact absurd c_40 c_53
                   subst e
                   exact (if_neg (fun h => un_no (hu.mp h))).symm)
          · skip
            refine j_iload_n C dX10_taken_38 rfl rfl ?_
            refine j_iload_n C dX10_taken_39 rfl rfl ?_
            refine j_icmp_eq (tgt := 51) C dX10_taken_40 (by decide) (fun c_40 => ?_) (fun c_40 => ?_)
            · skip
              refine j_iload_n C dX10_taken_51 rfl rfl ?_
              refine j_iload_n C dX10_taken_52 rfl rfl ?_
              refine j_icmp_ne (tgt := 67) C dX10_taken_53 (by decide) (fun c_53 => ?_) (fun c_53 => ?_)
              · skip
                refine j_bipush (v := -13) C dX10_taken_67 rfl ?_
                refine hret _ _ _ _ dX10_taken_69 rfl ?_
                refine ⟨?_, rfl⟩
                rw [if_pos hq, if_pos b_17, nI_clamp (show i < 2147483648 by omega)]
                first
                  | (subst c_53; exact (if_pos (hu.mpr (un_eq hq))).symm)
                  | (have e : y = -1 := by first | exact c_35 | exact absurd c_40 c_53
                     subst e
                     exact (if_neg (fun h => un_no (hu.mp h))).symm)
              · skip
                refine j_aload_n C dX10_taken_56 rfl rfl ?_
                refine j_get C dX10_taken_57 jf_RX10_29 (wO mO) rfl ?_
                refine j_iconst (v := 4) C dX10_taken_60 rfl ?_
                refine j_iload_n C dX10_taken_61 rfl rfl ?_
                refine j_imul C dX10_taken_62 ?_
                refine j_iald C (4 * i) dX10_taken_63 (wA mA6) (pk_mul 4 i) (by omega) (by decide) ?_
                refine j_goto (tgt := 69) C dX10_taken_64 (by decide) ?_
                refine hret _ _ _ _ dX10_taken_69 rfl ?_
                refine ⟨?_, rfl⟩
                rw [if_pos hq, if_pos b_17, nI_clamp (show i < 2147483648 by omega)]
                first
                  | (subst c_53; exact (if_pos (hu.mpr (un_eq hq))).symm)
                  | (have e : y = -1 := by first | exact c_35 | exact absurd c_40 c_53
                     subst e
                     exact (if_neg (fun h => un_no (hu.mp h))).symm)
            · skip
              refine j_iload_n C dX10_taken_43 rfl rfl ?_
              refine j_callis C (c_X10_over _ _ _ _ _ ) dX10_taken_44 jm_RX10_388 ⟨by decide, by decide, by decide, by decide⟩ rfl (Nat.le_of_ble_eq_true rfl) (fun r z hz => ?_)
              obtain ⟨hr, hz⟩ := hz; have hr := hr.symm; have hz := hz.symm; subst hr; subst hz
              refine j_istore_n (lv' := [(3, _), (0, _), (1, _), (2, _)]) C dX10_taken_47 rfl (by decide) rfl ?_
              refine j_goto (tgt := 33) C dX10_taken_48 (by decide) ?_
              refine j_lv (lv' := [(0, _), (1, _), (2, _), (3, _)]) rfl ?_
              have hy0 : 0 ≤ y ∧ y < 6 := by simp only [Int32.lt_iff_toInt_lt, Int32.le_iff_toInt_le, ← Int32.toInt_inj, Int32.reduceToInt] at c_35 hy ⊢; omega
              have h4 := un_ov hy0 c_40
              exact ih _ (by omega) h4.2.2 (hu.trans h4.1)
      refine j_lv (lv' := [(0, _), (1, _), (2, _), (3, _)]) rfl ?_
      exact L_33 4 _ rk_4 (by simp only [Int32.lt_iff_toInt_lt, Int32.le_iff_toInt_le, ← Int32.toInt_inj, Int32.reduceToInt] at hK ⊢; omega) Iff.rfl
    · skip
      refine j_if_ne (tgt := 26) C dX10_taken_20 (by decide) (fun c => absurd (by decide) c) (fun _ => ?_)
      refine j_bipush (v := -11) C dX10_taken_23 rfl ?_
      refine hret _ _ _ _ dX10_taken_25 rfl ?_
      exact ⟨by rw [if_pos hq, if_neg b_17], rfl⟩
  · skip
    have hq : ¬ (0 ≤ q ∧ q < 6) := by simp only [Int32.lt_iff_toInt_lt, Int32.le_iff_toInt_le, ← Int32.toInt_inj, Int32.reduceToInt, Int64.lt_iff_toInt_lt, Int64.le_iff_toInt_le, Int32.toInt_toInt64, Int64.reduceToInt] at b_6 ⊢; omega
    refine j_if_ne (tgt := 15) C dX10_taken_9 (by decide) (fun c => absurd (by decide) c) (fun _ => ?_)
    refine j_bipush (v := -2) C dX10_taken_12 rfl ?_
    refine hret _ _ _ _ dX10_taken_14 rfl ?_
    exact ⟨(if_neg hq).symm, rfl⟩
