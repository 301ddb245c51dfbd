/-- a glove as the reference has it -/
abbrev gV (x : mS) (i : Nat) : Nat → Int32 := fun j => if j = 0 then x.1 5 i else x.1 6 (4 * i + (j - 1))
def lyX (x : mS) (j i : Nat) (v : Int32) : mS := if j < 3 then mU x 4 j v else if j < 7 then mU x 6 (4 * i + (j - 3)) v else if j = 7 then mU x 5 i v else mU x 0 4 v
def hgY (x : mS) (n : Nat) (k m p : Int32) : mS := mU (mU (mU (mU (mU (mU x 5 n k) 6 (4 * n) m) 6 (4 * n + 1) p) 6 (4 * n + 2) 2) 6 (4 * n + 3) 0) 0 10 (nI (n + 1))
theorem mo_cn {j : Nat} (h : j < 7) : (if nI j < 2 ∨ nI j = 4 then 19 else if nI j = 3 then 9 else if nI j = 5 then 4 else 1 : Int32) = cnS (nI j) - 1 ∧ 0 ≤ cnS (nI j) - 1 ∧ (cnS (nI j) - 1).toInt = (cnS (nI j)).toInt - 1 := by
  have h7 : j = 0 ∨ j = 1 ∨ j = 2 ∨ j = 3 ∨ j = 4 ∨ j = 5 ∨ j = 6 := by omega
  rcases h7 with rfl | rfl | rfl | rfl | rfl | rfl | rfl <;> decide

set_option maxHeartbeats 4000000 in
set_option maxRecDepth 100000 in
theorem c_X10_lays (l : Launch) (g : jG) (a : Nat → Nat) (x : mS) (w : Int32) (o : Int32) (v : Int32) (j i : Nat) (hw : w = nI j) (hj : j < 10) (ho : 3 ≤ j → o = nI i) (hi : i < 6) : Cv l g yX10_lays cX10_lays 4 0 0 0 0 (mW g a) [.ref (a 0), .int w, .int o, .int v] x (fun z => z = lyX x j i v) := by
  refine mk_v (by decide +kernel) rfl (fun KK hKl hKg C hin hret => ?_)
  subst hKl; subst hKg
  refine j_lv (lv' := [(0, _), (1, _), (2, _), (3, _)]) rfl ?_
  subst hw
  have e_j : (nI j).toInt = j := nI_toInt (by omega)
  refine j_iload_n C dX10_lays_0 rfl rfl ?_
  refine j_iconst (v := 3) C dX10_lays_1 rfl ?_
  refine j_icmp_ge (tgt := 15) C dX10_lays_2 (by decide) (fun c_2 => ?_) (fun c_2 => ?_)
  · skip
    have hj3 : ¬ j < 3 := by simp only [Int32.lt_iff_toInt_lt, Int32.le_iff_toInt_le, ← Int32.toInt_inj, Int32.reduceToInt, e_j] at c_2; omega
    have ho := ho (by omega)
    subst ho
    refine j_iload_n C dX10_lays_15 rfl rfl ?_
    refine j_bipush (v := 7) C dX10_lays_16 rfl ?_
    refine j_icmp_ge (tgt := 37) C dX10_lays_18 (by decide) (fun c_18 => ?_) (fun c_18 => ?_)
    · skip
      have hj7 : ¬ j < 7 := by simp only [Int32.lt_iff_toInt_lt, Int32.le_iff_toInt_le, ← Int32.toInt_inj, Int32.reduceToInt, e_j] at c_18; omega
      refine j_iload_n C dX10_lays_37 rfl rfl ?_
      refine j_bipush (v := 7) C dX10_lays_38 rfl ?_
      refine j_icmp_ne (tgt := 53) C dX10_lays_40 (by decide) (fun c_40 => ?_) (fun c_40 => ?_)
      · skip
        have hj8 : ¬ j = 7 := fun h => c_40 (by rw [h]; rfl)
        refine j_aload_n C dX10_lays_53 rfl rfl ?_
        refine j_iload_n C dX10_lays_54 rfl rfl ?_
        refine j_put C dX10_lays_55 jp_RX10_95 (wO mO) (Nat.le_of_ble_eq_true rfl) rfl rfl (sMo 4 _ rfl) ?_
        refine hret _ _ _ dX10_lays_58 ?_
        first | (unfold lyX; rw [if_pos hj3]; done) | (unfold lyX; rw [if_neg hj3, if_pos hj7]; done) | (unfold lyX; rw [if_neg hj3, if_neg hj7, if_pos hj8]; done) | (unfold lyX; rw [if_neg hj3, if_neg hj7, if_neg hj8]; done)
      · skip
        have hj8 : j = 7 := by have := congrArg Int32.toInt c_40; simp only [e_j, Int32.reduceToInt] at this; omega
        refine j_aload_n C dX10_lays_43 rfl rfl ?_
        refine j_get C dX10_lays_44 jf_RX10_26 (wO mO) rfl ?_
        refine j_iload_n C dX10_lays_47 rfl rfl ?_
        refine j_iload_n C dX10_lays_48 rfl rfl ?_
        refine j_iast C (i) dX10_lays_49 (wA mA5) (rfl) (hi) (by decide) (sMa mA5 _ _) ?_
        refine j_goto (tgt := 58) C dX10_lays_50 (by decide) ?_
        refine hret _ _ _ dX10_lays_58 ?_
        first | (unfold lyX; rw [if_pos hj3]; done) | (unfold lyX; rw [if_neg hj3, if_pos hj7]; done) | (unfold lyX; rw [if_neg hj3, if_neg hj7, if_pos hj8]; done) | (unfold lyX; rw [if_neg hj3, if_neg hj7, if_neg hj8]; done)
    · skip
      have hj7 : j < 7 := by simp only [Int32.lt_iff_toInt_lt, Int32.le_iff_toInt_le, ← Int32.toInt_inj, Int32.reduceToInt, e_j] at c_18; omega
      refine j_aload_n C dX10_lays_21 rfl rfl ?_
      refine j_get C dX10_lays_22 jf_RX10_29 (wO mO) rfl ?_
      refine j_iconst (v := 4) C dX10_lays_25 rfl ?_
      refine j_iload_n C dX10_lays_26 rfl rfl ?_
      refine j_imul C dX10_lays_27 ?_
      refine j_iload_n C dX10_lays_28 rfl rfl ?_
      refine j_iadd C dX10_lays_29 ?_
      refine j_iconst (v := 3) C dX10_lays_30 rfl ?_
      refine j_isub C dX10_lays_31 ?_
      refine j_iload_n C dX10_lays_32 rfl rfl ?_
      refine j_iast C (4 * i + (j - 3)) dX10_lays_33 (wA mA6) (by
            have e1 : (4 : Int32) * nI i = nI (4 * i) := pk_mul 4 i
            rw [e1, nI_add]
            exact (pk_sub (b := 3) (by omega)).trans (congrArg nI (by omega))) (by omega) (by decide) (sMa mA6 _ _) ?_
      refine j_goto (tgt := 58) C dX10_lays_34 (by decide) ?_
      refine hret _ _ _ dX10_lays_58 ?_
      first | (unfold lyX; rw [if_pos hj3]; done) | (unfold lyX; rw [if_neg hj3, if_pos hj7]; done) | (unfold lyX; rw [if_neg hj3, if_neg hj7, if_pos hj8]; done) | (unfold lyX; rw [if_neg hj3, if_neg hj7, if_neg hj8]; done)
  · skip
    have hj3 : j < 3 := by simp only [Int32.lt_iff_toInt_lt, Int32.le_iff_toInt_le, ← Int32.toInt_inj, Int32.reduceToInt, e_j] at c_2; omega
    refine j_aload_n C dX10_lays_5 rfl rfl ?_
    refine j_get C dX10_lays_6 jf_RX10_23 (wO mO) rfl ?_
    refine j_iload_n C dX10_lays_9 rfl rfl ?_
    refine j_iload_n C dX10_lays_10 rfl rfl ?_
    refine j_iast C (j) dX10_lays_11 (wA mA4) (rfl) (hj3) (by decide) (sMa mA4 _ _) ?_
    refine j_goto (tgt := 58) C dX10_lays_12 (by decide) ?_
    refine hret _ _ _ dX10_lays_58 ?_
    first | (unfold lyX; rw [if_pos hj3]; done) | (unfold lyX; rw [if_neg hj3, if_pos hj7]; done) | (unfold lyX; rw [if_neg hj3, if_neg hj7, if_pos hj8]; done) | (unfold lyX; rw [if_neg hj3, if_neg hj7, if_neg hj8]; done)
set_option maxHeartbeats 4000000 in
set_option maxRecDepth 100000 in
theorem c_X10_set (l : Launch) (g : jG) (a : Nat → Nat) (x : mS) (w : Int32) (o : Int32) (v : Int32) (n : Nat) (hn : mnR x n) : Ci l g yX10_set cX10_set 5 .int 3 68 0 0 (mW g a) [.ref (a 0), .int w, .int o, .int v] x (fun r z => if seOk (x.1 0 10) w o v then (r = tdS (x.1 4) (gV x o.toNatClampNeg) w ∧ z = lyX x w.toNatClampNeg o.toNatClampNeg v) else r = -2 ∧ z = x) := by
  refine mk_i (by decide +kernel) rfl (fun KK hKl hKg C hin hret => ?_)
  subst hKl; subst hKg
  refine j_lv (lv' := [(0, _), (1, _), (2, _), (3, _)]) rfl ?_
  have hn6 := hn.2
  refine j_iload_n C dX10_set_0 rfl rfl ?_
  refine j_i2l C dX10_set_1 ?_
  refine j_lconst (v := 0) C dX10_set_2 rfl ?_
  refine j_ldc2 C dX10_set_3 jc_RX10_77 ?_
  refine j_callis C (c_X10_in _ _ _ _ _ _ _ ) dX10_set_6 jm_RX10_73 ⟨by decide, by decide, by decide, by decide⟩ rfl (Nat.le_of_ble_eq_true rfl) (fun r z hz => ?_)
  obtain ⟨hb, hz⟩ := hz; have hz := hz.symm; subst hz
  rcases hb with ⟨rfl, b_6⟩ | ⟨rfl, b_6⟩
  · skip
    have hw6 : 0 ≤ w ∧ w ≤ 6 := by simp only [Int32.lt_iff_toInt_lt, Int32.le_iff_toInt_le, ← Int32.toInt_inj, Int32.reduceToInt, Int64.lt_iff_toInt_lt, Int64.le_iff_toInt_le, Int32.toInt_toInt64, Int64.reduceToInt] at b_6 ⊢; omega
    obtain ⟨j, hj, rfl⟩ := in_of (B := 7) (q := w) (m := 7) (by simp only [Int32.lt_iff_toInt_lt, Int32.le_iff_toInt_le, ← Int32.toInt_inj, Int32.reduceToInt] at hw6 ⊢; omega) rfl
    have e_j : (nI j).toInt = j := nI_toInt (by omega)
    refine j_if_eq (tgt := 39) C dX10_set_9 (by decide) (fun c => absurd c (by decide)) (fun _ => ?_)
    refine j_iload_n C dX10_set_12 rfl rfl ?_
    refine j_iconst (v := 2) C dX10_set_13 rfl ?_
    refine j_icmp_le (tgt := 25) C dX10_set_14 (by decide) (fun c_14 => ?_) (fun c_14 => ?_)
    · skip
      refine j_iload_n C dX10_set_25 rfl rfl ?_
      refine j_i2l C dX10_set_26 ?_
      refine j_lconst (v := 0) C dX10_set_27 rfl ?_
      refine j_iload_n C dX10_set_28 rfl rfl ?_
      refine j_callis C (c_X10_mostOf _ _ _ _ _ ) dX10_set_29 jm_RX10_83 ⟨by decide, by decide, by decide, by decide⟩ rfl (Nat.le_of_ble_eq_true rfl) (fun r z hz => ?_)
      obtain ⟨hr, hz⟩ := hz; have hr := hr.symm; have hz := hz.symm; subst hr; subst hz
      refine j_i2l C dX10_set_32 ?_
      refine j_callis C (c_X10_in _ _ _ _ _ _ _ ) dX10_set_33 jm_RX10_73 ⟨by decide, by decide, by decide, by decide⟩ rfl (Nat.le_of_ble_eq_true rfl) (fun r z hz => ?_)
      obtain ⟨hb, hz⟩ := hz; have hz := hz.symm; subst hz
      rcases hb with ⟨rfl, b_33⟩ | ⟨rfl, b_33⟩
      · skip
        have hv : 0 ≤ v ∧ v < cnS (nI j) := by
          rw [(mo_cn hj).1] at b_33
          simp only [Int32.lt_iff_toInt_lt, Int32.le_iff_toInt_le, ← Int32.toInt_inj, Int32.reduceToInt, Int64.lt_iff_toInt_lt, Int64.le_iff_toInt_le, Int32.toInt_toInt64, Int64.reduceToInt, (mo_cn hj).2.2] at b_33 ⊢; omega
        refine j_if_ne (tgt := 42) C dX10_set_36 (by decide) (fun _ => ?_) (fun c => absurd c (by decide))
        refine j_aload_n C dX10_set_42 rfl rfl ?_
        refine j_iload_n C dX10_set_43 rfl rfl ?_
        refine j_iload_n C dX10_set_44 rfl rfl ?_
        refine j_calliv C (c_X10_told _ _ _ _ _ _ n hn) dX10_set_45 jm_RX10_87 ⟨_, _, _, _, wO mO, rfl, rfl⟩ ⟨by decide, by decide, by decide, by decide⟩ rfl (Nat.le_of_ble_eq_true rfl) (fun r z hz => ?_)
        obtain ⟨hr, hz⟩ := hz; have hr := hr.symm; have hz := hz.symm; subst hr; subst hz
        refine j_istore (lv' := [(4, _), (0, _), (1, _), (2, _), (3, _)]) C dX10_set_48 (by decide) rfl ?_
        refine j_aload_n C dX10_set_50 rfl rfl ?_
        refine j_iload_n C dX10_set_51 rfl rfl ?_
        refine j_iload_n C dX10_set_52 rfl rfl ?_
        refine j_iload_n C dX10_set_53 rfl rfl ?_
        refine j_callvv C (c_X10_lays _ _ _ _ _ _ _ j 0 rfl (by omega) (fun h => absurd c_14 (fun h2 => by simp only [Int32.lt_iff_toInt_lt, Int32.le_iff_toInt_le, ← Int32.toInt_inj, Int32.reduceToInt, e_j] at h2; omega)) (by omega)) dX10_set_54 jm_RX10_91 ⟨_, _, _, _, wO mO, rfl, rfl⟩ ⟨by decide, by decide, by decide, by decide⟩ rfl (Nat.le_of_ble_eq_true rfl) (fun z_54 hz_54 => ?_)
        have hz_54 := hz_54.symm; subst hz_54
        refine j_iload C dX10_set_57 rfl ?_
        refine hret _ _ _ _ dX10_set_59 rfl ?_
        have hj2 : j < 3 := by simp only [Int32.lt_iff_toInt_lt, Int32.le_iff_toInt_le, ← Int32.toInt_inj, Int32.reduceToInt, e_j] at c_14; omega
        have hw2 : nI j ≤ 2 := by simp only [Int32.lt_iff_toInt_lt, Int32.le_iff_toInt_le, ← Int32.toInt_inj, Int32.reduceToInt, e_j]; omega
        rw [if_pos ⟨hv, Or.inl hw2⟩, nI_clamp (show j < 2147483648 by omega)]
        refine ⟨if_pos ⟨by simp only [Int32.lt_iff_toInt_lt, Int32.le_iff_toInt_le, ← Int32.toInt_inj, Int32.reduceToInt] at hw6 ⊢; omega, Or.inl hw2⟩, ?_⟩
        unfold lyX; rw [if_pos hj2, if_pos hj2]
      · skip
        have hv : ¬ (0 ≤ v ∧ v < cnS (nI j)) := by
          rw [(mo_cn hj).1] at b_33
          simp only [Int32.lt_iff_toInt_lt, Int32.le_iff_toInt_le, ← Int32.toInt_inj, Int32.reduceToInt, Int64.lt_iff_toInt_lt, Int64.le_iff_toInt_le, Int32.toInt_toInt64, Int64.reduceToInt, (mo_cn hj).2.2] at b_33 ⊢; omega
        refine j_if_ne (tgt := 42) C dX10_set_36 (by decide) (fun c => absurd (by decide) c) (fun _ => ?_)
        refine j_bipush (v := -2) C dX10_set_39 rfl ?_
        refine hret _ _ _ _ dX10_set_41 rfl ?_
        rw [if_neg (fun h => hv h.1)]; exact ⟨rfl, rfl⟩
    · skip
      refine j_aload_n C dX10_set_17 rfl rfl ?_
      refine j_iload_n C dX10_set_18 rfl rfl ?_
      refine j_calliv C (c_X10_isGlove _ _ _ _ _ n hn) dX10_set_19 jm_RX10_79 ⟨_, _, _, _, wO mO, rfl, rfl⟩ ⟨by decide, by decide, by decide, by decide⟩ rfl (Nat.le_of_ble_eq_true rfl) (fun r z hz => ?_)
      obtain ⟨hb, hz⟩ := hz; have hz := hz.symm; subst hz
      rcases hb with ⟨rfl, b_19⟩ | ⟨rfl, b_19⟩
      · skip
        obtain ⟨i, hi, rfl⟩ := in_of (B := n) b_19 hn.1 (by omega)
        have hi6 : i < 6 := by omega
        refine j_if_eq (tgt := 39) C dX10_set_22 (by decide) (fun c => absurd c (by decide)) (fun _ => ?_)
        refine j_iload_n C dX10_set_25 rfl rfl ?_
        refine j_i2l C dX10_set_26 ?_
        refine j_lconst (v := 0) C dX10_set_27 rfl ?_
        refine j_iload_n C dX10_set_28 rfl rfl ?_
        refine j_callis C (c_X10_mostOf _ _ _ _ _ ) dX10_set_29 jm_RX10_83 ⟨by decide, by decide, by decide, by decide⟩ rfl (Nat.le_of_ble_eq_true rfl) (fun r z hz => ?_)
        obtain ⟨hr, hz⟩ := hz; have hr := hr.symm; have hz := hz.symm; subst hr; subst hz
        refine j_i2l C dX10_set_32 ?_
        refine j_callis C (c_X10_in _ _ _ _ _ _ _ ) dX10_set_33 jm_RX10_73 ⟨by decide, by decide, by decide, by decide⟩ rfl (Nat.le_of_ble_eq_true rfl) (fun r z hz => ?_)
        obtain ⟨hb, hz⟩ := hz; have hz := hz.symm; subst hz
        rcases hb with ⟨rfl, b_33⟩ | ⟨rfl, b_33⟩
        · skip
          have hv : 0 ≤ v ∧ v < cnS (nI j) := by
            rw [(mo_cn hj).1] at b_33
            simp only [Int32.lt_iff_toInt_lt, Int32.le_iff_toInt_le, ← Int32.toInt_inj, Int32.reduceToInt, Int64.lt_iff_toInt_lt, Int64.le_iff_toInt_le, Int32.toInt_toInt64, Int64.reduceToInt, (mo_cn hj).2.2] at b_33 ⊢; omega
          refine j_if_ne (tgt := 42) C dX10_set_36 (by decide) (fun _ => ?_) (fun c => absurd c (by decide))
          refine j_aload_n C dX10_set_42 rfl rfl ?_
          refine j_iload_n C dX10_set_43 rfl rfl ?_
          refine j_iload_n C dX10_set_44 rfl rfl ?_
          refine j_calliv C (c_X10_told _ _ _ _ _ _ n hn) dX10_set_45 jm_RX10_87 ⟨_, _, _, _, wO mO, rfl, rfl⟩ ⟨by decide, by decide, by decide, by decide⟩ rfl (Nat.le_of_ble_eq_true rfl) (fun r z hz => ?_)
          obtain ⟨hr, hz⟩ := hz; have hr := hr.symm; have hz := hz.symm; subst hr; subst hz
          refine j_istore (lv' := [(4, _), (0, _), (1, _), (2, _), (3, _)]) C dX10_set_48 (by decide) rfl ?_
          refine j_aload_n C dX10_set_50 rfl rfl ?_
          refine j_iload_n C dX10_set_51 rfl rfl ?_
          refine j_iload_n C dX10_set_52 rfl rfl ?_
          refine j_iload_n C dX10_set_53 rfl rfl ?_
          refine j_callvv C (c_X10_lays _ _ _ _ _ _ _ j i rfl (by omega) (fun _ => rfl) hi6) dX10_set_54 jm_RX10_91 ⟨_, _, _, _, wO mO, rfl, rfl⟩ ⟨by decide, by decide, by decide, by decide⟩ rfl (Nat.le_of_ble_eq_true rfl) (fun z_54 hz_54 => ?_)
          have hz_54 := hz_54.symm; subst hz_54
          refine j_iload C dX10_set_57 rfl ?_
          refine hret _ _ _ _ dX10_set_59 rfl ?_
          rw [if_pos ⟨hv, Or.inr b_19⟩, nI_clamp (show j < 2147483648 by omega), nI_clamp (show i < 2147483648 by omega)]
          exact ⟨if_pos ⟨by simp only [Int32.lt_iff_toInt_lt, Int32.le_iff_toInt_le, ← Int32.toInt_inj, Int32.reduceToInt] at hw6 ⊢; omega, Or.inr b_19⟩, rfl⟩
        · skip
          have hv : ¬ (0 ≤ v ∧ v < cnS (nI j)) := by
            rw [(mo_cn hj).1] at b_33
            simp only [Int32.lt_iff_toInt_lt, Int32.le_iff_toInt_le, ← Int32.toInt_inj, Int32.reduceToInt, Int64.lt_iff_toInt_lt, Int64.le_iff_toInt_le, Int32.toInt_toInt64, Int64.reduceToInt, (mo_cn hj).2.2] at b_33 ⊢; omega
          refine j_if_ne (tgt := 42) C dX10_set_36 (by decide) (fun c => absurd (by decide) c) (fun _ => ?_)
          refine j_bipush (v := -2) C dX10_set_39 rfl ?_
          refine hret _ _ _ _ dX10_set_41 rfl ?_
          rw [if_neg (fun h => hv h.1)]; exact ⟨rfl, rfl⟩
      · skip
        refine j_if_eq (tgt := 39) C dX10_set_22 (by decide) (fun _ => ?_) (fun c => absurd (by decide) c)
        refine j_bipush (v := -2) C dX10_set_39 rfl ?_
        refine hret _ _ _ _ dX10_set_41 rfl ?_
        rw [if_neg (fun h => h.2.elim (fun h2 => c_14 (by simp only [Int32.lt_iff_toInt_lt, Int32.le_iff_toInt_le, ← Int32.toInt_inj, Int32.reduceToInt] at h2 ⊢; omega)) b_19)]; exact ⟨rfl, rfl⟩
  · skip
    refine j_if_eq (tgt := 39) C dX10_set_9 (by decide) (fun _ => ?_) (fun c => absurd (by decide) c)
    refine j_bipush (v := -2) C dX10_set_39 rfl ?_
    refine hret _ _ _ _ dX10_set_41 rfl ?_
    rw [if_neg (fun h => b_6 (by have := cn_0 (w := w) (by have := h.1; simp only [Int32.lt_iff_toInt_lt, Int32.le_iff_toInt_le, ← Int32.toInt_inj, Int32.reduceToInt] at this ⊢; omega); simp only [Int32.lt_iff_toInt_lt, Int32.le_iff_toInt_le, ← Int32.toInt_inj, Int32.reduceToInt, Int64.lt_iff_toInt_lt, Int64.le_iff_toInt_le, Int32.toInt_toInt64, Int64.reduceToInt] at this ⊢; omega))]; exact ⟨rfl, rfl⟩
set_option maxHeartbeats 4000000 in
set_option maxRecDepth 100000 in
theorem c_X10_glove (l : Launch) (g : jG) (a : Nat → Nat) (x : mS) (k : Int32) (m : Int32) (p : Int32) (n : Nat) (hn : mnR x n) : Ci l g yX10_glove cX10_glove 4 .int 1 25 0 0 (mW g a) [.ref (a 0), .int k, .int m, .int p] x (fun r z => if glOk k m p then (if n < 6 then r = nI n ∧ z = hgY x n k m p else r = -4 ∧ z = x) else r = -2 ∧ z = x) := by
  refine mk_i (by decide +kernel) rfl (fun KK hKl hKg C hin hret => ?_)
  subst hKl; subst hKg
  refine j_lv (lv' := [(0, _), (1, _), (2, _), (3, _)]) rfl ?_
  have hn6 := hn.2
  have e_n : (x.1 0 10).toInt = n := by rw [hn.1]; exact nI_toInt (by omega)
  have e4 : ∀ d : Nat, (4 : Int32) * nI n + nI d = nI (4 * n + d) := fun d => (congrArg (· + nI d) (pk_mul 4 n)).trans (nI_add (4 * n) d)
  refine j_iload_n C dX10_glove_0 rfl rfl ?_
  refine j_i2l C dX10_glove_1 ?_
  refine j_lconst (v := 0) C dX10_glove_2 rfl ?_
  refine j_ldc2 C dX10_glove_3 jc_RX10_98 ?_
  refine j_callis C (c_X10_in _ _ _ _ _ _ _ ) dX10_glove_6 jm_RX10_73 ⟨by decide, by decide, by decide, by decide⟩ rfl (Nat.le_of_ble_eq_true rfl) (fun r z hz => ?_)
  obtain ⟨hb, hz⟩ := hz; have hz := hz.symm; subst hz
  rcases hb with ⟨rfl, b_6⟩ | ⟨rfl, b_6⟩
  · skip
    refine j_if_eq (tgt := 36) C dX10_glove_9 (by decide) (fun c => absurd c (by decide)) (fun _ => ?_)
    refine j_iload_n C dX10_glove_12 rfl rfl ?_
    refine j_i2l C dX10_glove_13 ?_
    refine j_lconst (v := 0) C dX10_glove_14 rfl ?_
    refine j_ldc2 C dX10_glove_15 jc_RX10_100 ?_
    refine j_callis C (c_X10_in _ _ _ _ _ _ _ ) dX10_glove_18 jm_RX10_73 ⟨by decide, by decide, by decide, by decide⟩ rfl (Nat.le_of_ble_eq_true rfl) (fun r z hz => ?_)
    obtain ⟨hb, hz⟩ := hz; have hz := hz.symm; subst hz
    rcases hb with ⟨rfl, b_18⟩ | ⟨rfl, b_18⟩
    · skip
      refine j_if_eq (tgt := 36) C dX10_glove_21 (by decide) (fun c => absurd c (by decide)) (fun _ => ?_)
      refine j_iload_n C dX10_glove_24 rfl rfl ?_
      refine j_i2l C dX10_glove_25 ?_
      refine j_lconst (v := 0) C dX10_glove_26 rfl ?_
      refine j_ldc2 C dX10_glove_27 jc_RX10_102 ?_
      refine j_callis C (c_X10_in _ _ _ _ _ _ _ ) dX10_glove_30 jm_RX10_73 ⟨by decide, by decide, by decide, by decide⟩ rfl (Nat.le_of_ble_eq_true rfl) (fun r z hz => ?_)
      obtain ⟨hb, hz⟩ := hz; have hz := hz.symm; subst hz
      rcases hb with ⟨rfl, b_30⟩ | ⟨rfl, b_30⟩
      · skip
        refine j_if_ne (tgt := 39) C dX10_glove_33 (by decide) (fun _ => ?_) (fun c => absurd c (by decide))
        refine j_aload_n C dX10_glove_39 rfl rfl ?_
        refine j_get C dX10_glove_40 jf_RX10_70 (wO mO) rfl ?_
        refine j_bipush (v := 6) C dX10_glove_43 rfl ?_
        refine j_icmp_ne (tgt := 51) C dX10_glove_45 (by decide) (fun c_45 => ?_) (fun c_45 => ?_)
        · skip
          have hlt : n < 6 := by
            have : ¬ n = 6 := fun h => c_45 (by rw [hn.1, h]; rfl)
            omega
          refine j_aload_n C dX10_glove_51 rfl rfl ?_
          refine j_get C dX10_glove_52 jf_RX10_26 (wO mO) rfl ?_
          refine j_aload_n C dX10_glove_55 rfl rfl ?_
          refine j_get C dX10_glove_56 jf_RX10_70 (wO mO) rfl ?_
          refine j_iload_n C dX10_glove_59 rfl rfl ?_
          refine j_iast C (n) dX10_glove_60 (wA mA5) (hn.1) (hlt) (by decide) (sMa mA5 _ _) ?_
          refine j_aload_n C dX10_glove_61 rfl rfl ?_
          refine j_get C dX10_glove_62 jf_RX10_29 (wO mO) rfl ?_
          refine j_iconst (v := 4) C dX10_glove_65 rfl ?_
          refine j_aload_n C dX10_glove_66 rfl rfl ?_
          refine j_get C dX10_glove_67 jf_RX10_70 (wO mO) rfl ?_
          refine j_imul C dX10_glove_70 ?_
          refine j_iload_n C dX10_glove_71 rfl rfl ?_
          refine j_iast C (4 * n) dX10_glove_72 (wA mA6) (by rw [mU_1, uM_ne (by decide), hn.1]; exact pk_mul 4 n) (by omega) (by decide) (sMa mA6 _ _) ?_
          refine j_aload_n C dX10_glove_73 rfl rfl ?_
          refine j_get C dX10_glove_74 jf_RX10_29 (wO mO) rfl ?_
          refine j_iconst (v := 4) C dX10_glove_77 rfl ?_
          refine j_aload_n C dX10_glove_78 rfl rfl ?_
          refine j_get C dX10_glove_79 jf_RX10_70 (wO mO) rfl ?_
          refine j_imul C dX10_glove_82 ?_
          refine j_iconst (v := 1) C dX10_glove_83 rfl ?_
          refine j_iadd C dX10_glove_84 ?_
          refine j_iload_n C dX10_glove_85 rfl rfl ?_
          refine j_iast C (4 * n + 1) dX10_glove_86 (wA mA6) (by rw [mU_1, uM_ne (by decide), mU_1, uM_ne (by decide), hn.1]; exact e4 1) (by omega) (by decide) (sMa mA6 _ _) ?_
          refine j_aload_n C dX10_glove_87 rfl rfl ?_
          refine j_get C dX10_glove_88 jf_RX10_29 (wO mO) rfl ?_
          refine j_iconst (v := 4) C dX10_glove_91 rfl ?_
          refine j_aload_n C dX10_glove_92 rfl rfl ?_
          refine j_get C dX10_glove_93 jf_RX10_70 (wO mO) rfl ?_
          refine j_imul C dX10_glove_96 ?_
          refine j_iconst (v := 2) C dX10_glove_97 rfl ?_
          refine j_iadd C dX10_glove_98 ?_
          refine j_iconst (v := 2) C dX10_glove_99 rfl ?_
          refine j_iast C (4 * n + 2) dX10_glove_100 (wA mA6) (by rw [mU_1, uM_ne (by decide), mU_1, uM_ne (by decide), mU_1, uM_ne (by decide), hn.1]; exact e4 2) (by omega) (by decide) (sMa mA6 _ _) ?_
          refine j_aload_n C dX10_glove_101 rfl rfl ?_
          refine j_get C dX10_glove_102 jf_RX10_29 (wO mO) rfl ?_
          refine j_iconst (v := 4) C dX10_glove_105 rfl ?_
          refine j_aload_n C dX10_glove_106 rfl rfl ?_
          refine j_get C dX10_glove_107 jf_RX10_70 (wO mO) rfl ?_
          refine j_imul C dX10_glove_110 ?_
          refine j_iconst (v := 3) C dX10_glove_111 rfl ?_
          refine j_iadd C dX10_glove_112 ?_
          refine j_iconst (v := 0) C dX10_glove_113 rfl ?_
          refine j_iast C (4 * n + 3) dX10_glove_114 (wA mA6) (by rw [mU_1, uM_ne (by decide), mU_1, uM_ne (by decide), mU_1, uM_ne (by decide), mU_1, uM_ne (by decide), hn.1]; exact e4 3) (by omega) (by decide) (sMa mA6 _ _) ?_
          refine j_aload_n C dX10_glove_115 rfl rfl ?_
          refine j_dup C dX10_glove_116 rfl ?_
          refine j_get C dX10_glove_117 jf_RX10_70 (wO mO) rfl ?_
          refine j_iconst (v := 1) C dX10_glove_120 rfl ?_
          refine j_iadd C dX10_glove_121 ?_
          refine j_put C dX10_glove_122 jp_RX10_70 (wO mO) (Nat.le_of_ble_eq_true rfl) rfl rfl (sMo 10 _ rfl) ?_
          refine j_aload_n C dX10_glove_125 rfl rfl ?_
          refine j_get C dX10_glove_126 jf_RX10_70 (wO mO) rfl ?_
          refine j_iconst (v := 1) C dX10_glove_129 rfl ?_
          refine j_isub C dX10_glove_130 ?_
          refine hret _ _ _ _ dX10_glove_131 rfl ?_
          rw [if_pos ⟨by simp only [Int32.lt_iff_toInt_lt, Int32.le_iff_toInt_le, ← Int32.toInt_inj, Int32.reduceToInt, Int64.lt_iff_toInt_lt, Int64.le_iff_toInt_le, Int32.toInt_toInt64, Int64.reduceToInt] at b_6 ⊢; omega, by simp only [Int32.lt_iff_toInt_lt, Int32.le_iff_toInt_le, ← Int32.toInt_inj, Int32.reduceToInt, Int64.lt_iff_toInt_lt, Int64.le_iff_toInt_le, Int32.toInt_toInt64, Int64.reduceToInt] at b_18 ⊢; omega, by simp only [Int32.lt_iff_toInt_lt, Int32.le_iff_toInt_le, ← Int32.toInt_inj, Int32.reduceToInt, Int64.lt_iff_toInt_lt, Int64.le_iff_toInt_le, Int32.toInt_toInt64, Int64.reduceToInt] at b_30 ⊢; omega⟩, if_pos hlt]
          have e : (mU (mU (mU (mU (mU x 5 n k) 6 (4 * n) m) 6 (4 * n + 1) p) 6 (4 * n + 2) 2) 6 (4 * n + 3) 0).1 0 10 + 1 = nI (n + 1) := by
            rw [mU_1, uM_ne (by decide), mU_1, uM_ne (by decide), mU_1, uM_ne (by decide), mU_1, uM_ne (by decide), mU_1, uM_ne (by decide), hn.1, nI_1]
          rw [e]
          refine ⟨?_, rfl⟩
          rw [mU_1, uM_s]
          exact (pk_sub (a := n + 1) (b := 1) (by omega)).trans (congrArg nI (by omega))
        · skip
          have hlt : ¬ n < 6 := by have := congrArg Int32.toInt c_45; rw [e_n] at this; simp only [Int32.reduceToInt] at this; omega
          refine j_bipush (v := -4) C dX10_glove_48 rfl ?_
          refine hret _ _ _ _ dX10_glove_50 rfl ?_
          rw [if_pos ⟨by simp only [Int32.lt_iff_toInt_lt, Int32.le_iff_toInt_le, ← Int32.toInt_inj, Int32.reduceToInt, Int64.lt_iff_toInt_lt, Int64.le_iff_toInt_le, Int32.toInt_toInt64, Int64.reduceToInt] at b_6 ⊢; omega, by simp only [Int32.lt_iff_toInt_lt, Int32.le_iff_toInt_le, ← Int32.toInt_inj, Int32.reduceToInt, Int64.lt_iff_toInt_lt, Int64.le_iff_toInt_le, Int32.toInt_toInt64, Int64.reduceToInt] at b_18 ⊢; omega, by simp only [Int32.lt_iff_toInt_lt, Int32.le_iff_toInt_le, ← Int32.toInt_inj, Int32.reduceToInt, Int64.lt_iff_toInt_lt, Int64.le_iff_toInt_le, Int32.toInt_toInt64, Int64.reduceToInt] at b_30 ⊢; omega⟩, if_neg hlt]; exact ⟨rfl, rfl⟩
      · skip
        refine j_if_ne (tgt := 39) C dX10_glove_33 (by decide) (fun c => absurd (by decide) c) (fun _ => ?_)
        refine j_bipush (v := -2) C dX10_glove_36 rfl ?_
        refine hret _ _ _ _ dX10_glove_38 rfl ?_
        first | (rw [if_neg (fun h => b_6 (by have := h.1; simp only [Int32.lt_iff_toInt_lt, Int32.le_iff_toInt_le, ← Int32.toInt_inj, Int32.reduceToInt, Int64.lt_iff_toInt_lt, Int64.le_iff_toInt_le, Int32.toInt_toInt64, Int64.reduceToInt] at this ⊢; omega))]; exact ⟨rfl, rfl⟩) | (rw [if_neg (fun h => b_18 (by have := h.2.1; simp only [Int32.lt_iff_toInt_lt, Int32.le_iff_toInt_le, ← Int32.toInt_inj, Int32.reduceToInt, Int64.lt_iff_toInt_lt, Int64.le_iff_toInt_le, Int32.toInt_toInt64, Int64.reduceToInt] at this ⊢; omega))]; exact ⟨rfl, rfl⟩) | (rw [if_neg (fun h => b_30 (by have := h.2.2; simp only [Int32.lt_iff_toInt_lt, Int32.le_iff_toInt_le, ← Int32.toInt_inj, Int32.reduceToInt, Int64.lt_iff_toInt_lt, Int64.le_iff_toInt_le, Int32.toInt_toInt64, Int64.reduceToInt] at this ⊢; omega))]; exact ⟨rfl, rfl⟩)
    · skip
      refine j_if_eq (tgt := 36) C dX10_glove_21 (by decide) (fun _ => ?_) (fun c => absurd (by decide) c)
      refine j_bipush (v := -2) C dX10_glove_36 rfl ?_
      refine hret _ _ _ _ dX10_glove_38 rfl ?_
      first | (rw [if_neg (fun h => b_6 (by have := h.1; simp only [Int32.lt_iff_toInt_lt, Int32.le_iff_toInt_le, ← Int32.toInt_inj, Int32.reduceToInt, Int64.lt_iff_toInt_lt, Int64.le_iff_toInt_le, Int32.toInt_toInt64, Int64.reduceToInt] at this ⊢; omega))]; exact ⟨rfl, rfl⟩) | (rw [if_neg (fun h => b_18 (by have := h.2.1; simp only [Int32.lt_iff_toInt_lt, Int32.le_iff_toInt_le, ← Int32.toInt_inj, Int32.reduceToInt, Int64.lt_iff_toInt_lt, Int64.le_iff_toInt_le, Int32.toInt_toInt64, Int64.reduceToInt] at this ⊢; omega))]; exact ⟨rfl, rfl⟩) | (rw [if_neg (fun h => b_30 (by have := h.2.2; simp only [Int32.lt_iff_toInt_lt, Int32.le_iff_toInt_le, ← Int32.toInt_inj, Int32.reduceToInt, Int64.lt_iff_toInt_lt, Int64.le_iff_toInt_le, Int32.toInt_toInt64, Int64.reduceToInt] at this ⊢; omega))]; exact ⟨rfl, rfl⟩)
  · skip
    refine j_if_eq (tgt := 36) C dX10_glove_9 (by decide) (fun _ => ?_) (fun c => absurd (by decide) c)
    refine j_bipush (v := -2) C dX10_glove_36 rfl ?_
    refine hret _ _ _ _ dX10_glove_38 rfl ?_
    first | (rw [if_neg (fun h => b_6 (by have := h.1; simp only [Int32.lt_iff_toInt_lt, Int32.le_iff_toInt_le, ← Int32.toInt_inj, Int32.reduceToInt, Int64.lt_iff_toInt_lt, Int64.le_iff_toInt_le, Int32.toInt_toInt64, Int64.reduceToInt] at this ⊢; omega))]; exact ⟨rfl, rfl⟩) | (rw [if_neg (fun h => b_18 (by have := h.2.1; simp only [Int32.lt_iff_toInt_lt, Int32.le_iff_toInt_le, ← Int32.toInt_inj, Int32.reduceToInt, Int64.lt_iff_toInt_lt, Int64.le_iff_toInt_le, Int32.toInt_toInt64, Int64.reduceToInt] at this ⊢; omega))]; exact ⟨rfl, rfl⟩) | (rw [if_neg (fun h => b_30 (by have := h.2.2; simp only [Int32.lt_iff_toInt_lt, Int32.le_iff_toInt_le, ← Int32.toInt_inj, Int32.reduceToInt, Int64.lt_iff_toInt_lt, Int64.le_iff_toInt_le, Int32.toInt_toInt64, Int64.reduceToInt] at this ⊢; omega))]; exact ⟨rfl, rfl⟩)
set_option maxHeartbeats 4000000 in
set_option maxRecDepth 100000 in
theorem c_X10_image (l : Launch) (g : jG) (a : Nat → Nat) (x : mS)   : Ci l g yX10_image cX10_image 2 .int 0 0 0 0 (mW g a) [.ref (a 0)] x (fun r z => r = x.1 0 10 ∧ z.2 = x.2 ∧ (∀ j, j < 3 → z.1 10 j = x.1 4 j) ∧ (∀ j, j < 24 → z.1 11 j = x.1 6 j) ∧ z.1 0 31 = x.1 0 10 ∧ z.1 0 32 = x.1 0 4 ∧ (∀ c, c ≠ 0 → c ≠ 10 → c ≠ 11 → z.1 c = x.1 c) ∧ (∀ j, j ≠ 31 → j ≠ 32 → z.1 0 j = x.1 0 j)) := by
  refine mk_i (by decide +kernel) rfl (fun KK hKl hKg C hin hret => ?_)
  subst hKl; subst hKg
  refine j_lv (lv' := [(0, _)]) rfl ?_
  refine j_iconst (v := 0) C dX10_image_0 rfl ?_
  refine j_istore_n (lv' := [(1, _), (0, _)]) C dX10_image_1 rfl (by decide) rfl ?_
  have L_2 : ∀ k : Nat, ∀ (i : Nat) (x' : mS), i ≤ 3 → 3 < i + k → x'.2 = x.2 → (∀ j, j < i → x'.1 10 j = x.1 4 j) → x'.1 11 = x.1 11 → (∀ c, c ≠ 10 → c ≠ 11 → x'.1 c = x.1 c) → J KK (mW (kG KK) a) 0 0 x' [(0, .ref (a 0)), (1, .int (nI i))] 2 [] := by
    intro k
    induction k with
    | zero => intro i x' h1 hk h2 hA hB hF; omega
    | succ k ih =>
      intro i x' h1 hk h2 hA hB hF
      have e_i : (nI i).toInt = i := nI_toInt (by omega)
      refine j_iload_n C dX10_image_2 rfl rfl ?_
      refine j_iconst (v := 3) C dX10_image_3 rfl ?_
      refine j_icmp_ge (tgt := 25) C dX10_image_4 (by decide) (fun c_1 => ?_) (fun c_1 => ?_)
      · skip
        have h3 : i = 3 := by simp only [Int32.lt_iff_toInt_lt, Int32.le_iff_toInt_le, ← Int32.toInt_inj, Int32.reduceToInt, e_i] at c_1; omega
        subst h3
        refine j_iconst (v := 0) C dX10_image_25 rfl ?_
        refine j_istore_n (lv' := [(1, _), (0, _)]) C dX10_image_26 rfl (by decide) rfl ?_
        have L_27 : ∀ k : Nat, ∀ (i : Nat) (x' : mS), i ≤ 24 → 24 < i + k → x'.2 = x.2 → (∀ j, j < 3 → x'.1 10 j = x.1 4 j) → (∀ j, j < i → x'.1 11 j = x.1 6 j) → (∀ c, c ≠ 10 → c ≠ 11 → x'.1 c = x.1 c) → J KK (mW (kG KK) a) 0 0 x' [(0, .ref (a 0)), (1, .int (nI i))] 27 [] := by
          intro k
          induction k with
          | zero => intro i x' h1 hk h2 hA hB hF; omega
          | succ k ih =>
            intro i x' h1 hk h2 hA hB hF
            have e_i : (nI i).toInt = i := nI_toInt (by omega)
            refine j_iload_n C dX10_image_27 rfl rfl ?_
            refine j_bipush (v := 24) C dX10_image_28 rfl ?_
            refine j_icmp_ge (tgt := 51) C dX10_image_30 (by decide) (fun c_2 => ?_) (fun c_2 => ?_)
            · skip
              have h3 : i = 24 := by simp only [Int32.lt_iff_toInt_lt, Int32.le_iff_toInt_le, ← Int32.toInt_inj, Int32.reduceToInt, e_i] at c_2; omega
              subst h3
              refine j_aload_n C dX10_image_51 rfl rfl ?_
              refine j_aload_n C dX10_image_52 rfl rfl ?_
              refine j_get C dX10_image_53 jf_RX10_70 (wO mO) rfl ?_
              refine j_put C dX10_image_56 jp_RX10_47 (wO mO) (Nat.le_of_ble_eq_true rfl) rfl rfl (sMo 31 _ rfl) ?_
              refine j_aload_n C dX10_image_59 rfl rfl ?_
              refine j_aload_n C dX10_image_60 rfl rfl ?_
              refine j_get C dX10_image_61 jf_RX10_95 (wO mO) rfl ?_
              refine j_put C dX10_image_64 jp_RX10_380 (wO mO) (Nat.le_of_ble_eq_true rfl) rfl rfl (sMo 32 _ rfl) ?_
              refine j_aload_n C dX10_image_67 rfl rfl ?_
              refine j_get C dX10_image_68 jf_RX10_70 (wO mO) rfl ?_
              refine hret _ _ _ _ dX10_image_71 rfl ?_
              have h0 := hF 0 (by decide) (by decide)
              refine ⟨by simp [mU_1, uM_all, h0], h2, fun j hj => ?_, fun j hj => ?_, by simp [mU_1, uM_all, h0], by simp [mU_1, uM_all, h0], fun c h3 h4 h5 => ?_, fun j h3 h4 => by simp [mU_1, uM_all, h0, h3, h4]⟩
              · rw [mU_1, uM_ne (by decide), mU_1, uM_ne (by decide)]; exact hA j hj
              · rw [mU_1, uM_ne (by decide), mU_1, uM_ne (by decide)]; exact hB j hj
              · rw [mU_1, uM_ne h3, mU_1, uM_ne h3]; exact hF c h4 h5
            · skip
              have h3 : i < 24 := by simp only [Int32.lt_iff_toInt_lt, Int32.le_iff_toInt_le, ← Int32.toInt_inj, Int32.reduceToInt, e_i] at c_2; omega
              refine j_aload_n C dX10_image_33 rfl rfl ?_
              refine j_get C dX10_image_34 jf_RX10_44 (wO mO) rfl ?_
              refine j_iload_n C dX10_image_37 rfl rfl ?_
              refine j_aload_n C dX10_image_38 rfl rfl ?_
              refine j_get C dX10_image_39 jf_RX10_29 (wO mO) rfl ?_
              refine j_iload_n C dX10_image_42 rfl rfl ?_
              refine j_iald C (i) dX10_image_43 (wA mA6) (rfl) (h3) (by decide) ?_
              refine j_iast C (i) dX10_image_44 (wA mA11) (rfl) (h3) (by decide) (sMa mA11 _ _) ?_
              refine j_iinc (lv' := [(1, _), (0, _)]) (v := nI (i + 1)) C dX10_image_45 rfl (j_inc1 i) (by decide) rfl ?_
              refine j_goto (tgt := 27) C dX10_image_48 (by decide) ?_
              refine j_lv (lv' := [(0, _), (1, _)]) rfl ?_
              exact ih (i + 1) _ (by omega) (by omega) h2 (fun j hj => by rw [mU_1, uM_ne (by decide)]; exact hA j hj) (fun j hj => by
                by_cases h : j = i
                · subst h; rw [mU_1, uM_s, hF _ (by decide) (by decide)]
                · rw [mU_1, uM_n h]; exact hB j (by omega)) (fun c h3 h4 => by rw [mU_1, uM_ne h4]; exact hF c h3 h4)
        refine j_lv (lv' := [(0, _), (1, _)]) rfl ?_
        exact L_27 25 0 _ (by omega) (by omega) h2 hA (fun j hj => absurd hj (by omega)) hF
      · skip
        have h3 : i < 3 := by simp only [Int32.lt_iff_toInt_lt, Int32.le_iff_toInt_le, ← Int32.toInt_inj, Int32.reduceToInt, e_i] at c_1; omega
        refine j_aload_n C dX10_image_7 rfl rfl ?_
        refine j_get C dX10_image_8 jf_RX10_41 (wO mO) rfl ?_
        refine j_iload_n C dX10_image_11 rfl rfl ?_
        refine j_aload_n C dX10_image_12 rfl rfl ?_
        refine j_get C dX10_image_13 jf_RX10_23 (wO mO) rfl ?_
        refine j_iload_n C dX10_image_16 rfl rfl ?_
        refine j_iald C (i) dX10_image_17 (wA mA4) (rfl) (h3) (by decide) ?_
        refine j_iast C (i) dX10_image_18 (wA mA10) (rfl) (h3) (by decide) (sMa mA10 _ _) ?_
        refine j_iinc (lv' := [(1, _), (0, _)]) (v := nI (i + 1)) C dX10_image_19 rfl (j_inc1 i) (by decide) rfl ?_
        refine j_goto (tgt := 2) C dX10_image_22 (by decide) ?_
        refine j_lv (lv' := [(0, _), (1, _)]) rfl ?_
        exact ih (i + 1) _ (by omega) (by omega) h2 (fun j hj => by
          by_cases h : j = i
          · subst h; rw [mU_1, uM_s, hF _ (by decide) (by decide)]
          · rw [mU_1, uM_n h]; exact hA j (by omega)) (by rw [mU_1, uM_ne (by decide)]; exact hB) (fun c h3 h4 => by rw [mU_1, uM_ne h3]; exact hF c h3 h4)
  refine j_lv (lv' := [(0, _), (1, _)]) rfl ?_
  exact L_2 4 0 x (by omega) (by omega) rfl (fun j hj => absurd hj (by omega)) rfl (fun _ _ _ => rfl)
set_option maxHeartbeats 4000000 in
set_option maxRecDepth 100000 in
theorem c_X10_back (l : Launch) (g : jG) (a : Nat → Nat) (x : mS)   : Ci l g yX10_back cX10_back 2 .int 0 0 0 0 (mW g a) [.ref (a 0)] x (fun r z => if x.1 0 31 = -1 then r = -3 ∧ z = x else r = x.1 0 31 ∧ z.2 = x.2 ∧ (∀ j, j < 3 → z.1 4 j = x.1 10 j) ∧ (∀ j, j < 24 → z.1 6 j = x.1 11 j) ∧ z.1 0 10 = x.1 0 31 ∧ z.1 0 4 = x.1 0 32 ∧ (∀ c, c ≠ 0 → c ≠ 4 → c ≠ 6 → z.1 c = x.1 c) ∧ (∀ j, j ≠ 10 → j ≠ 4 → z.1 0 j = x.1 0 j)) := by
  refine mk_i (by decide +kernel) rfl (fun KK hKl hKg C hin hret => ?_)
  subst hKl; subst hKg
  refine j_lv (lv' := [(0, _)]) rfl ?_
  refine j_aload_n C dX10_back_0 rfl rfl ?_
  refine j_get C dX10_back_1 jf_RX10_47 (wO mO) rfl ?_
  refine j_iconst (v := -1) C dX10_back_4 rfl ?_
  refine j_icmp_ne (tgt := 11) C dX10_back_5 (by decide) (fun c_5 => ?_) (fun c_5 => ?_)
  · skip
    refine j_iconst (v := 0) C dX10_back_11 rfl ?_
    refine j_istore_n (lv' := [(1, _), (0, _)]) C dX10_back_12 rfl (by decide) rfl ?_
    have L_13 : ∀ k : Nat, ∀ (i : Nat) (x' : mS), i ≤ 3 → 3 < i + k → x'.2 = x.2 → (∀ j, j < i → x'.1 4 j = x.1 10 j) → x'.1 6 = x.1 6 → (∀ c, c ≠ 4 → c ≠ 6 → x'.1 c = x.1 c) → J KK (mW (kG KK) a) 0 0 x' [(0, .ref (a 0)), (1, .int (nI i))] 13 [] := by
      intro k
      induction k with
      | zero => intro i x' h1 hk h2 hA hB hF; omega
      | succ k ih =>
        intro i x' h1 hk h2 hA hB hF
        have e_i : (nI i).toInt = i := nI_toInt (by omega)
        refine j_iload_n C dX10_back_13 rfl rfl ?_
        refine j_iconst (v := 3) C dX10_back_14 rfl ?_
        refine j_icmp_ge (tgt := 36) C dX10_back_15 (by decide) (fun c_2 => ?_) (fun c_2 => ?_)
        · skip
          have h3 : i = 3 := by simp only [Int32.lt_iff_toInt_lt, Int32.le_iff_toInt_le, ← Int32.toInt_inj, Int32.reduceToInt, e_i] at c_2; omega
          subst h3
          refine j_iconst (v := 0) C dX10_back_36 rfl ?_
          refine j_istore_n (lv' := [(1, _), (0, _)]) C dX10_back_37 rfl (by decide) rfl ?_
          have L_38 : ∀ k : Nat, ∀ (i : Nat) (x' : mS), i ≤ 24 → 24 < i + k → x'.2 = x.2 → (∀ j, j < 3 → x'.1 4 j = x.1 10 j) → (∀ j, j < i → x'.1 6 j = x.1 11 j) → (∀ c, c ≠ 4 → c ≠ 6 → x'.1 c = x.1 c) → J KK (mW (kG KK) a) 0 0 x' [(0, .ref (a 0)), (1, .int (nI i))] 38 [] := by
            intro k
            induction k with
            | zero => intro i x' h1 hk h2 hA hB hF; omega
            | succ k ih =>
              intro i x' h1 hk h2 hA hB hF
              have e_i : (nI i).toInt = i := nI_toInt (by omega)
              refine j_iload_n C dX10_back_38 rfl rfl ?_
              refine j_bipush (v := 24) C dX10_back_39 rfl ?_
              refine j_icmp_ge (tgt := 62) C dX10_back_41 (by decide) (fun c_3 => ?_) (fun c_3 => ?_)
              · skip
                have h3 : i = 24 := by simp only [Int32.lt_iff_toInt_lt, Int32.le_iff_toInt_le, ← Int32.toInt_inj, Int32.reduceToInt, e_i] at c_3; omega
                subst h3
                refine j_aload_n C dX10_back_62 rfl rfl ?_
                refine j_aload_n C dX10_back_63 rfl rfl ?_
                refine j_get C dX10_back_64 jf_RX10_47 (wO mO) rfl ?_
                refine j_put C dX10_back_67 jp_RX10_70 (wO mO) (Nat.le_of_ble_eq_true rfl) rfl rfl (sMo 10 _ rfl) ?_
                refine j_aload_n C dX10_back_70 rfl rfl ?_
                refine j_aload_n C dX10_back_71 rfl rfl ?_
                refine j_get C dX10_back_72 jf_RX10_380 (wO mO) rfl ?_
                refine j_put C dX10_back_75 jp_RX10_95 (wO mO) (Nat.le_of_ble_eq_true rfl) rfl rfl (sMo 4 _ rfl) ?_
                refine j_aload_n C dX10_back_78 rfl rfl ?_
                refine j_get C dX10_back_79 jf_RX10_70 (wO mO) rfl ?_
                refine hret _ _ _ _ dX10_back_82 rfl ?_
                rw [if_neg c_5]
                have h0 := hF 0 (by decide) (by decide)
                refine ⟨by simp [mU_1, uM_all, h0], h2, fun j hj => ?_, fun j hj => ?_, by simp [mU_1, uM_all, h0], by simp [mU_1, uM_all, h0], fun c h3 h4 h5 => ?_, fun j h3 h4 => by simp [mU_1, uM_all, h0, h3, h4]⟩
                · rw [mU_1, uM_ne (by decide), mU_1, uM_ne (by decide)]; exact hA j hj
                · rw [mU_1, uM_ne (by decide), mU_1, uM_ne (by decide)]; exact hB j hj
                · rw [mU_1, uM_ne h3, mU_1, uM_ne h3]; exact hF c h4 h5
              · skip
                have h3 : i < 24 := by simp only [Int32.lt_iff_toInt_lt, Int32.le_iff_toInt_le, ← Int32.toInt_inj, Int32.reduceToInt, e_i] at c_3; omega
                refine j_aload_n C dX10_back_44 rfl rfl ?_
                refine j_get C dX10_back_45 jf_RX10_29 (wO mO) rfl ?_
                refine j_iload_n C dX10_back_48 rfl rfl ?_
                refine j_aload_n C dX10_back_49 rfl rfl ?_
                refine j_get C dX10_back_50 jf_RX10_44 (wO mO) rfl ?_
                refine j_iload_n C dX10_back_53 rfl rfl ?_
                refine j_iald C (i) dX10_back_54 (wA mA11) (rfl) (h3) (by decide) ?_
                refine j_iast C (i) dX10_back_55 (wA mA6) (rfl) (h3) (by decide) (sMa mA6 _ _) ?_
                refine j_iinc (lv' := [(1, _), (0, _)]) (v := nI (i + 1)) C dX10_back_56 rfl (j_inc1 i) (by decide) rfl ?_
                refine j_goto (tgt := 38) C dX10_back_59 (by decide) ?_
                refine j_lv (lv' := [(0, _), (1, _)]) rfl ?_
                exact ih (i + 1) _ (by omega) (by omega) h2 (fun j hj => by rw [mU_1, uM_ne (by decide)]; exact hA j hj) (fun j hj => by
                  by_cases h : j = i
                  · subst h; rw [mU_1, uM_s, hF _ (by decide) (by decide)]
                  · rw [mU_1, uM_n h]; exact hB j (by omega)) (fun c h3 h4 => by rw [mU_1, uM_ne h4]; exact hF c h3 h4)
          refine j_lv (lv' := [(0, _), (1, _)]) rfl ?_
          exact L_38 25 0 _ (by omega) (by omega) h2 hA (fun j hj => absurd hj (by omega)) hF
        · skip
          have h3 : i < 3 := by simp only [Int32.lt_iff_toInt_lt, Int32.le_iff_toInt_le, ← Int32.toInt_inj, Int32.reduceToInt, e_i] at c_2; omega
          refine j_aload_n C dX10_back_18 rfl rfl ?_
          refine j_get C dX10_back_19 jf_RX10_23 (wO mO) rfl ?_
          refine j_iload_n C dX10_back_22 rfl rfl ?_
          refine j_aload_n C dX10_back_23 rfl rfl ?_
          refine j_get C dX10_back_24 jf_RX10_41 (wO mO) rfl ?_
          refine j_iload_n C dX10_back_27 rfl rfl ?_
          refine j_iald C (i) dX10_back_28 (wA mA10) (rfl) (h3) (by decide) ?_
          refine j_iast C (i) dX10_back_29 (wA mA4) (rfl) (h3) (by decide) (sMa mA4 _ _) ?_
          refine j_iinc (lv' := [(1, _), (0, _)]) (v := nI (i + 1)) C dX10_back_30 rfl (j_inc1 i) (by decide) rfl ?_
          refine j_goto (tgt := 13) C dX10_back_33 (by decide) ?_
          refine j_lv (lv' := [(0, _), (1, _)]) rfl ?_
          exact ih (i + 1) _ (by omega) (by omega) h2 (fun j hj => by
            by_cases h : j = i
            · subst h; rw [mU_1, uM_s, hF _ (by decide) (by decide)]
            · rw [mU_1, uM_n h]; exact hA j (by omega)) (by rw [mU_1, uM_ne (by decide)]; exact hB) (fun c h3 h4 => by rw [mU_1, uM_ne h3]; exact hF c h3 h4)
    refine j_lv (lv' := [(0, _), (1, _)]) rfl ?_
    exact L_13 4 0 x (by omega) (by omega) rfl (fun j hj => absurd hj (by omega)) rfl (fun _ _ _ => rfl)
  · skip
    refine j_bipush (v := -3) C dX10_back_8 rfl ?_
    refine hret _ _ _ _ dX10_back_10 rfl ?_
    rw [if_pos c_5]; exact ⟨rfl, rfl⟩
