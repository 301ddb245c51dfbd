set_option maxHeartbeats 4000000 in
set_option maxRecDepth 100000 in
theorem c_X5_has (l : Launch) (g : jG) (a : Nat → Nat) (M : (Nat → Nat → Int32)) (K : Nat) (hK : isRw K) (i : Int32)  : Ci l g yX5_has cX5_has 2 .boolean 0 0 0 0 (cW g a) [.ref (a K), .int i] M (fun r z => ((r = 1 ∧ (0 ≤ i ∧ i < M K 2 ∧ i < 40)) ∨ (r = 0 ∧ ¬ ((0 ≤ i ∧ i < M K 2 ∧ i < 40)))) ∧ z = M) := by
  refine mk_i (by decide +kernel) rfl (fun KK hKl hKg C hin hret => ?_)
  subst hKl; subst hKg
  refine j_lv (lv' := [(0, _), (1, _)]) rfl ?_
  refine j_iload_n C dX5_has_0 rfl rfl ?_
  refine j_if_lt (tgt := 25) C dX5_has_1 (by decide) (fun c_1 => ?_) (fun c_1 => ?_)
  · skip
    refine j_iconst (v := 0) C dX5_has_25 rfl ?_
    refine hret _ _ _ _ dX5_has_26 rfl ?_
    exact ⟨Or.inr ⟨rfl, by simp only [Int32.lt_iff_toInt_lt, Int32.le_iff_toInt_le, ← Int32.toInt_inj, Int32.reduceToInt] at c_1 ⊢; omega⟩, rfl⟩
  · skip
    refine j_iload_n C dX5_has_4 rfl rfl ?_
    refine j_aload_n C dX5_has_5 rfl rfl ?_
    refine j_get C dX5_has_6 jf_RX5_19 (wO (cRw hK)) rfl ?_
    refine j_icmp_ge (tgt := 25) C dX5_has_9 (by decide) (fun c_2 => ?_) (fun c_2 => ?_)
    · skip
      refine j_iconst (v := 0) C dX5_has_25 rfl ?_
      refine hret _ _ _ _ dX5_has_26 rfl ?_
      exact ⟨Or.inr ⟨rfl, by simp only [Int32.lt_iff_toInt_lt, Int32.le_iff_toInt_le, ← Int32.toInt_inj, Int32.reduceToInt] at c_1 c_2 ⊢; omega⟩, rfl⟩
    · skip
      refine j_iload_n C dX5_has_12 rfl rfl ?_
      refine j_aload_n C dX5_has_13 rfl rfl ?_
      refine j_get C dX5_has_14 jf_RX5_9 (wO (cRw hK)) rfl ?_
      refine j_alen (v := 40) C dX5_has_17 (wA (cRwI hK)) gty_0 rfl ?_
      refine j_icmp_ge (tgt := 25) C dX5_has_18 (by decide) (fun c_3 => ?_) (fun c_3 => ?_)
      · skip
        refine j_iconst (v := 0) C dX5_has_25 rfl ?_
        refine hret _ _ _ _ dX5_has_26 rfl ?_
        exact ⟨Or.inr ⟨rfl, by simp only [Int32.lt_iff_toInt_lt, Int32.le_iff_toInt_le, ← Int32.toInt_inj, Int32.reduceToInt] at c_1 c_2 c_3 ⊢; omega⟩, rfl⟩
      · skip
        refine j_iconst (v := 1) C dX5_has_21 rfl ?_
        refine j_goto (tgt := 26) C dX5_has_22 (by decide) ?_
        refine hret _ _ _ _ dX5_has_26 rfl ?_
        exact ⟨Or.inl ⟨rfl, by simp only [Int32.lt_iff_toInt_lt, Int32.le_iff_toInt_le, ← Int32.toInt_inj, Int32.reduceToInt] at c_1 c_2 c_3 ⊢; omega⟩, rfl⟩
set_option maxHeartbeats 4000000 in
set_option maxRecDepth 100000 in
theorem c_X5_isMissing (l : Launch) (g : jG) (a : Nat → Nat) (M : (Nat → Nat → Int32)) (K : Nat) (hK : isRw K)  : Ci l g yX5_isMissing cX5_isMissing 1 .boolean 0 0 0 0 (cW g a) [.ref (a K)] M (fun r z => ((r = 1 ∧ (M K 1 = -1)) ∨ (r = 0 ∧ ¬ ((M K 1 = -1)))) ∧ z = M) := by
  refine mk_i (by decide +kernel) rfl (fun KK hKl hKg C hin hret => ?_)
  subst hKl; subst hKg
  refine j_lv (lv' := [(0, _)]) rfl ?_
  refine j_aload_n C dX5_isMissing_0 rfl rfl ?_
  refine j_get C dX5_isMissing_1 jf_RX5_15 (wO (cRw hK)) rfl ?_
  refine j_iconst (v := -1) C dX5_isMissing_4 rfl ?_
  refine j_icmp_ne (tgt := 12) C dX5_isMissing_5 (by decide) (fun c_1 => ?_) (fun c_1 => ?_)
  · skip
    refine j_iconst (v := 0) C dX5_isMissing_12 rfl ?_
    refine hret _ _ _ _ dX5_isMissing_13 rfl ?_
    exact ⟨Or.inr ⟨rfl, by simp only [Int32.lt_iff_toInt_lt, Int32.le_iff_toInt_le, ← Int32.toInt_inj, Int32.reduceToInt] at c_1 ⊢; omega⟩, rfl⟩
  · skip
    refine j_iconst (v := 1) C dX5_isMissing_8 rfl ?_
    refine j_goto (tgt := 13) C dX5_isMissing_9 (by decide) ?_
    refine hret _ _ _ _ dX5_isMissing_13 rfl ?_
    exact ⟨Or.inl ⟨rfl, by simp only [Int32.lt_iff_toInt_lt, Int32.le_iff_toInt_le, ← Int32.toInt_inj, Int32.reduceToInt] at c_1 ⊢; omega⟩, rfl⟩
set_option maxHeartbeats 4000000 in
set_option maxRecDepth 100000 in
theorem c_X5_hasAll (l : Launch) (g : jG) (a : Nat → Nat) (M : (Nat → Nat → Int32)) (K : Nat) (hK : isRw K) (p : Int32) (n : Int32)  : Ci l g yX5_hasAll cX5_hasAll 3 .boolean 0 0 0 0 (cW g a) [.ref (a K), .int p, .int n] M (fun r z => ((r = 1 ∧ (0 ≤ p ∧ 0 ≤ n ∧ n ≤ M K 2 ∧ p ≤ M K 2 - n ∧ M K 2 ≤ 40)) ∨ (r = 0 ∧ ¬ ((0 ≤ p ∧ 0 ≤ n ∧ n ≤ M K 2 ∧ p ≤ M K 2 - n ∧ M K 2 ≤ 40)))) ∧ z = M) := by
  refine mk_i (by decide +kernel) rfl (fun KK hKl hKg C hin hret => ?_)
  subst hKl; subst hKg
  refine j_lv (lv' := [(0, _), (1, _), (2, _)]) rfl ?_
  refine j_iload_n C dX5_hasAll_0 rfl rfl ?_
  refine j_if_lt (tgt := 42) C dX5_hasAll_1 (by decide) (fun c_1 => ?_) (fun c_1 => ?_)
  · skip
    refine j_iconst (v := 0) C dX5_hasAll_42 rfl ?_
    refine hret _ _ _ _ dX5_hasAll_43 rfl ?_
    exact ⟨Or.inr ⟨rfl, by simp only [Int32.lt_iff_toInt_lt, Int32.le_iff_toInt_le, ← Int32.toInt_inj, Int32.reduceToInt] at c_1 ⊢; omega⟩, rfl⟩
  · skip
    refine j_iload_n C dX5_hasAll_4 rfl rfl ?_
    refine j_if_lt (tgt := 42) C dX5_hasAll_5 (by decide) (fun c_2 => ?_) (fun c_2 => ?_)
    · skip
      refine j_iconst (v := 0) C dX5_hasAll_42 rfl ?_
      refine hret _ _ _ _ dX5_hasAll_43 rfl ?_
      exact ⟨Or.inr ⟨rfl, by simp only [Int32.lt_iff_toInt_lt, Int32.le_iff_toInt_le, ← Int32.toInt_inj, Int32.reduceToInt] at c_1 c_2 ⊢; omega⟩, rfl⟩
    · skip
      refine j_iload_n C dX5_hasAll_8 rfl rfl ?_
      refine j_aload_n C dX5_hasAll_9 rfl rfl ?_
      refine j_get C dX5_hasAll_10 jf_RX5_19 (wO (cRw hK)) rfl ?_
      refine j_icmp_gt (tgt := 42) C dX5_hasAll_13 (by decide) (fun c_3 => ?_) (fun c_3 => ?_)
      · skip
        refine j_iconst (v := 0) C dX5_hasAll_42 rfl ?_
        refine hret _ _ _ _ dX5_hasAll_43 rfl ?_
        exact ⟨Or.inr ⟨rfl, by simp only [Int32.lt_iff_toInt_lt, Int32.le_iff_toInt_le, ← Int32.toInt_inj, Int32.reduceToInt] at c_1 c_2 c_3 ⊢; omega⟩, rfl⟩
      · skip
        refine j_iload_n C dX5_hasAll_16 rfl rfl ?_
        refine j_aload_n C dX5_hasAll_17 rfl rfl ?_
        refine j_get C dX5_hasAll_18 jf_RX5_19 (wO (cRw hK)) rfl ?_
        refine j_iload_n C dX5_hasAll_21 rfl rfl ?_
        refine j_isub C dX5_hasAll_22 ?_
        refine j_icmp_gt (tgt := 42) C dX5_hasAll_23 (by decide) (fun c_4 => ?_) (fun c_4 => ?_)
        · skip
          refine j_iconst (v := 0) C dX5_hasAll_42 rfl ?_
          refine hret _ _ _ _ dX5_hasAll_43 rfl ?_
          exact ⟨Or.inr ⟨rfl, by simp only [Int32.lt_iff_toInt_lt, Int32.le_iff_toInt_le, ← Int32.toInt_inj, Int32.reduceToInt] at c_1 c_2 c_3 c_4 ⊢; omega⟩, rfl⟩
        · skip
          refine j_aload_n C dX5_hasAll_26 rfl rfl ?_
          refine j_get C dX5_hasAll_27 jf_RX5_19 (wO (cRw hK)) rfl ?_
          refine j_aload_n C dX5_hasAll_30 rfl rfl ?_
          refine j_get C dX5_hasAll_31 jf_RX5_9 (wO (cRw hK)) rfl ?_
          refine j_alen (v := 40) C dX5_hasAll_34 (wA (cRwI hK)) gty_0 rfl ?_
          refine j_icmp_gt (tgt := 42) C dX5_hasAll_35 (by decide) (fun c_5 => ?_) (fun c_5 => ?_)
          · skip
            refine j_iconst (v := 0) C dX5_hasAll_42 rfl ?_
            refine hret _ _ _ _ dX5_hasAll_43 rfl ?_
            exact ⟨Or.inr ⟨rfl, by simp only [Int32.lt_iff_toInt_lt, Int32.le_iff_toInt_le, ← Int32.toInt_inj, Int32.reduceToInt] at c_1 c_2 c_3 c_4 c_5 ⊢; omega⟩, rfl⟩
          · skip
            refine j_iconst (v := 1) C dX5_hasAll_38 rfl ?_
            refine j_goto (tgt := 43) C dX5_hasAll_39 (by decide) ?_
            refine hret _ _ _ _ dX5_hasAll_43 rfl ?_
            exact ⟨Or.inl ⟨rfl, by simp only [Int32.lt_iff_toInt_lt, Int32.le_iff_toInt_le, ← Int32.toInt_inj, Int32.reduceToInt] at c_1 c_2 c_3 c_4 c_5 ⊢; omega⟩, rfl⟩
set_option maxHeartbeats 4000000 in
set_option maxRecDepth 100000 in
theorem c_X5_itemAt (l : Launch) (g : jG) (a : Nat → Nat) (M : (Nat → Nat → Int32)) (K : Nat) (hK : isRw K) (i : Int32)  : Ci l g yX5_itemAt cX5_itemAt 2 .int 1 21 0 0 (cW g a) [.ref (a K), .int i] M (fun r z => r = (if 0 ≤ i ∧ i < M K 2 ∧ i < 40 then M (K + 1) i.toNatClampNeg else 0) ∧ z = M) := by
  refine mk_i (by decide +kernel) rfl (fun KK hKl hKg C hin hret => ?_)
  subst hKl; subst hKg
  refine j_lv (lv' := [(0, _), (1, _)]) rfl ?_
  refine j_aload_n C dX5_itemAt_0 rfl rfl ?_
  refine j_iload_n C dX5_itemAt_1 rfl rfl ?_
  refine j_calliv C (c_X5_has _ _ _ _ K hK _ ) dX5_itemAt_2 jm_RX5_22 ⟨_, _, _, _, wO (cRw hK), rfl, rfl⟩ ⟨by decide, by decide, by decide, by decide⟩ rfl (Nat.le_of_ble_eq_true rfl) (fun r z hz => ?_)
  obtain ⟨hb, hz⟩ := hz; have hz := hz.symm; subst hz
  rcases hb with ⟨rfl, b_1⟩ | ⟨rfl, b_1⟩
  · skip
    refine j_if_eq (tgt := 17) C dX5_itemAt_5 (by decide) (fun c => absurd c (by decide)) (fun _ => ?_)
    refine j_aload_n C dX5_itemAt_8 rfl rfl ?_
    refine j_get C dX5_itemAt_9 jf_RX5_9 (wO (cRw hK)) rfl ?_
    refine j_iload_n C dX5_itemAt_12 rfl rfl ?_
    refine j_iald C ((i.toNatClampNeg)) dX5_itemAt_13 (wA (cRwI hK)) (cl_nI b_1.1) (cl_lt b_1.1 b_1.2.2 rfl) (by decide) ?_
    refine j_goto (tgt := 18) C dX5_itemAt_14 (by decide) ?_
    refine hret _ _ _ _ dX5_itemAt_18 rfl ?_
    first | exact ⟨(if_pos b_1).symm, rfl⟩ | exact ⟨(if_neg b_1).symm, rfl⟩
  · skip
    refine j_if_eq (tgt := 17) C dX5_itemAt_5 (by decide) (fun _ => ?_) (fun c => absurd (by decide) c)
    refine j_iconst (v := 0) C dX5_itemAt_17 rfl ?_
    refine hret _ _ _ _ dX5_itemAt_18 rfl ?_
    first | exact ⟨(if_pos b_1).symm, rfl⟩ | exact ⟨(if_neg b_1).symm, rfl⟩
set_option maxHeartbeats 4000000 in
set_option maxRecDepth 100000 in
theorem c_X5_put (l : Launch) (g : jG) (a : Nat → Nat) (M : (Nat → Nat → Int32)) (K : Nat) (hK : isRw K) (i : Int32) (v : Int32)  : Cv l g yX5_put cX5_put 3 1 21 0 0 (cW g a) [.ref (a K), .int i, .int v] M (fun z => z = (if 0 ≤ i ∧ i < M K 2 ∧ i < 40 then uM M (K + 1) i.toNatClampNeg (if M K 1 = 0 then v.toInt8.toInt32 else if M K 1 = 1 then v.toInt16.toInt32 else v) else M)) := by
  refine mk_v (by decide +kernel) rfl (fun KK hKl hKg C hin hret => ?_)
  subst hKl; subst hKg
  refine j_lv (lv' := [(0, _), (1, _), (2, _)]) rfl ?_
  refine j_aload_n C dX5_put_0 rfl rfl ?_
  refine j_iload_n C dX5_put_1 rfl rfl ?_
  refine j_calliv C (c_X5_has _ _ _ _ K hK _ ) dX5_put_2 jm_RX5_22 ⟨_, _, _, _, wO (cRw hK), rfl, rfl⟩ ⟨by decide, by decide, by decide, by decide⟩ rfl (Nat.le_of_ble_eq_true rfl) (fun r z hz => ?_)
  obtain ⟨hb, hz⟩ := hz; have hz := hz.symm; subst hz
  rcases hb with ⟨rfl, b_1⟩ | ⟨rfl, b_1⟩
  · skip
    refine j_if_ne (tgt := 9) C dX5_put_5 (by decide) (fun _ => ?_) (fun c => absurd c (by decide))
    refine j_aload_n C dX5_put_9 rfl rfl ?_
    refine j_get C dX5_put_10 jf_RX5_15 (wO (cRw hK)) rfl ?_
    refine j_if_ne (tgt := 27) C dX5_put_13 (by decide) (fun c_2 => ?_) (fun c_2 => ?_)
    · skip
      refine j_aload_n C dX5_put_27 rfl rfl ?_
      refine j_get C dX5_put_28 jf_RX5_15 (wO (cRw hK)) rfl ?_
      refine j_iconst (v := 1) C dX5_put_31 rfl ?_
      refine j_icmp_ne (tgt := 46) C dX5_put_32 (by decide) (fun c_3 => ?_) (fun c_3 => ?_)
      · skip
        refine j_aload_n C dX5_put_46 rfl rfl ?_
        refine j_get C dX5_put_47 jf_RX5_9 (wO (cRw hK)) rfl ?_
        refine j_iload_n C dX5_put_50 rfl rfl ?_
        refine j_iload_n C dX5_put_51 rfl rfl ?_
        refine j_iast C ((i.toNatClampNeg)) dX5_put_52 (wA (cRwI hK)) (cl_nI b_1.1) (cl_lt b_1.1 b_1.2.2 rfl) (by decide) (sA (cRwI hK) _ _) ?_
        refine hret _ _ _ dX5_put_53 ?_
        first | exact (if_neg b_1).symm | exact ((if_pos b_1).trans (by simp_all)).symm
      · skip
        refine j_aload_n C dX5_put_35 rfl rfl ?_
        refine j_get C dX5_put_36 jf_RX5_9 (wO (cRw hK)) rfl ?_
        refine j_iload_n C dX5_put_39 rfl rfl ?_
        refine j_iload_n C dX5_put_40 rfl rfl ?_
        refine j_i2s C dX5_put_41 ?_
        refine j_iast C ((i.toNatClampNeg)) dX5_put_42 (wA (cRwI hK)) (cl_nI b_1.1) (cl_lt b_1.1 b_1.2.2 rfl) (by decide) (sA (cRwI hK) _ _) ?_
        refine j_goto (tgt := 53) C dX5_put_43 (by decide) ?_
        refine hret _ _ _ dX5_put_53 ?_
        first | exact (if_neg b_1).symm | exact ((if_pos b_1).trans (by simp_all)).symm
    · skip
      refine j_aload_n C dX5_put_16 rfl rfl ?_
      refine j_get C dX5_put_17 jf_RX5_9 (wO (cRw hK)) rfl ?_
      refine j_iload_n C dX5_put_20 rfl rfl ?_
      refine j_iload_n C dX5_put_21 rfl rfl ?_
      refine j_i2b C dX5_put_22 ?_
      refine j_iast C ((i.toNatClampNeg)) dX5_put_23 (wA (cRwI hK)) (cl_nI b_1.1) (cl_lt b_1.1 b_1.2.2 rfl) (by decide) (sA (cRwI hK) _ _) ?_
      refine j_goto (tgt := 53) C dX5_put_24 (by decide) ?_
      refine hret _ _ _ dX5_put_53 ?_
      first | exact (if_neg b_1).symm | exact ((if_pos b_1).trans (by simp_all)).symm
  · skip
    refine j_if_ne (tgt := 9) C dX5_put_5 (by decide) (fun c => absurd (by decide) c) (fun _ => ?_)
    refine hret _ _ _ dX5_put_8 ?_
    first | exact (if_neg b_1).symm | exact ((if_pos b_1).trans (by simp_all)).symm
set_option maxHeartbeats 4000000 in
set_option maxRecDepth 100000 in
theorem c_X5_become (l : Launch) (g : jG) (a : Nat → Nat) (M : (Nat → Nat → Int32)) (K : Nat) (hK : isRw K) (p : Int32) (n : Int32)  : Cv l g yX5_become cX5_become 4 0 0 0 0 (cW g a) [.ref (a K), .int p, .int n] M (fun z => z K = upd (upd (M K) 1 p) 2 n ∧ (∀ j, j < 40 → z (K + 1) j = 0) ∧ ∀ k, k ≠ K → k ≠ K + 1 → z k = M k) := by
  refine mk_v (by decide +kernel) rfl (fun KK hKl hKg C hin hret => ?_)
  subst hKl; subst hKg
  refine j_lv (lv' := [(0, _), (1, _), (2, _)]) rfl ?_
  refine j_aload_n C dX5_become_0 rfl rfl ?_
  refine j_iload_n C dX5_become_1 rfl rfl ?_
  refine j_put C dX5_become_2 jp_RX5_15 (wO (cRw hK)) (Nat.le_of_ble_eq_true rfl) rfl rfl (sO (cRw hK) 1 _ rfl) ?_
  refine j_aload_n C dX5_become_5 rfl rfl ?_
  refine j_iload_n C dX5_become_6 rfl rfl ?_
  refine j_put C dX5_become_7 jp_RX5_19 (wO (cRw hK)) (Nat.le_of_ble_eq_true rfl) rfl rfl (sO (cRw hK) 2 _ rfl) ?_
  refine j_iconst (v := 0) C dX5_become_10 rfl ?_
  refine j_istore_n (lv' := [(3, _), (0, _), (1, _), (2, _)]) C dX5_become_11 rfl (by decide) rfl ?_
  have L_12 : ∀ k : Nat, ∀ (i : Nat) (M' : Nat → Nat → Int32), i ≤ 40 → 40 < i + k → (M' K = upd (upd (M K) 1 p) 2 n ∧ (∀ j, j < i → M' (K + 1) j = 0) ∧ ∀ k, k ≠ K → k ≠ K + 1 → M' k = M k) → J KK (cW (kG KK) a) 0 0 M' [(0, .ref (a K)), (3, .int (nI i))] 12 [] := by
    intro k
    induction k with
    | zero => intro i M' hi hk hI; omega
    | succ k ih =>
      intro i M' hi hk hI
      have e_i : (nI i).toInt = i := nI_toInt (by omega)
      refine j_iload_n C dX5_become_12 rfl rfl ?_
      refine j_aload_n C dX5_become_13 rfl rfl ?_
      refine j_get C dX5_become_14 jf_RX5_9 (wO (cRw hK)) rfl ?_
      refine j_alen (v := 40) C dX5_become_17 (wA (cRwI hK)) gty_0 rfl ?_
      refine j_icmp_ge (tgt := 34) C dX5_become_18 (by decide) (fun c_1 => ?_) (fun c_1 => ?_)
      · skip
        refine hret _ _ _ dX5_become_34 ?_
        have hi2 : i = 40 := by simp only [Int32.lt_iff_toInt_lt, Int32.le_iff_toInt_le, ← Int32.toInt_inj, Int32.reduceToInt, e_i] at c_1; omega
        subst hi2; exact hI
      · skip
        refine j_aload_n C dX5_become_21 rfl rfl ?_
        refine j_get C dX5_become_22 jf_RX5_9 (wO (cRw hK)) rfl ?_
        refine j_iload_n C dX5_become_25 rfl rfl ?_
        refine j_iconst (v := 0) C dX5_become_26 rfl ?_
        refine j_iast C (i) dX5_become_27 (wA (cRwI hK)) (rfl) (by simp only [Int32.lt_iff_toInt_lt, Int32.le_iff_toInt_le, ← Int32.toInt_inj, Int32.reduceToInt, e_i] at *; omega) (by decide) (sA (cRwI hK) _ _) ?_
        refine j_iinc (lv' := [(3, _), (0, _)]) (v := nI (i + 1)) C dX5_become_28 rfl (j_inc1 i) (by decide) rfl ?_
        refine j_goto (tgt := 12) C dX5_become_31 (by decide) ?_
        refine j_lv (lv' := [(0, _), (3, _)]) rfl ?_
        have hi2 : i < 40 := by simp only [Int32.lt_iff_toInt_lt, Int32.le_iff_toInt_le, ← Int32.toInt_inj, Int32.reduceToInt, e_i] at c_1; omega
        exact ih (i + 1) _ (by omega) (by omega) ⟨by rw [uM_ne (by omega)]; exact hI.1, fun j hj => by
          by_cases h : j = i
          · subst h; rw [uM_s]
          · rw [uM_n h]; exact hI.2.1 j (by omega), fun k h1 h2 => by rw [uM_ne h2]; exact hI.2.2 k h1 h2⟩
  refine j_lv (lv' := [(0, _), (3, _)]) rfl ?_
  exact L_12 41 0 _ (by omega) (by omega) ⟨by rw [uM_eq, uM_eq], fun j h => absurd h (by omega), fun k h1 h2 => by rw [uM_ne h1, uM_ne h1]⟩
set_option maxHeartbeats 4000000 in
set_option maxRecDepth 100000 in
theorem c_X5_take (l : Launch) (g : jG) (a : Nat → Nat) (M : (Nat → Nat → Int32)) (K : Nat) (hK : isRw K) (K2 : Nat) (hK2 : isRw K2) (p : Int32) (q : Int32) (n : Int32)  : Cv l g yX5_take cX5_take 5 1 30 0 0 (cW g a) [.ref (a K), .ref (a K2), .int p, .int q, .int n] M (fun z => z = (if (0 ≤ p ∧ 0 ≤ n ∧ n ≤ M K2 2 ∧ p ≤ M K2 2 - n ∧ M K2 2 ≤ 40) ∧ (0 ≤ q ∧ 0 ≤ n ∧ n ≤ M K 2 ∧ q ≤ M K 2 - n ∧ M K 2 ≤ 40) then uR M (K + 1) (va_cpy (M (K2 + 1)) (M (K + 1)) p.toNatClampNeg q.toNatClampNeg n.toNatClampNeg) else M)) := by
  refine mk_v (by decide +kernel) rfl (fun KK hKl hKg C hin hret => ?_)
  subst hKl; subst hKg
  refine j_lv (lv' := [(0, _), (1, _), (2, _), (3, _), (4, _)]) rfl ?_
  refine j_aload_n C dX5_take_0 rfl rfl ?_
  refine j_iload_n C dX5_take_1 rfl rfl ?_
  refine j_iload C dX5_take_2 rfl ?_
  refine j_calliv C (c_X5_hasAll _ _ _ _ K2 hK2 _ _ ) dX5_take_4 jm_RX5_26 ⟨_, _, _, _, wO (cRw hK2), rfl, rfl⟩ ⟨by decide, by decide, by decide, by decide⟩ rfl (Nat.le_of_ble_eq_true rfl) (fun r z hz => ?_)
  obtain ⟨hb, hz⟩ := hz; have hz := hz.symm; subst hz
  rcases hb with ⟨rfl, b_1⟩ | ⟨rfl, b_1⟩
  · skip
    refine j_if_eq (tgt := 35) C dX5_take_7 (by decide) (fun c => absurd c (by decide)) (fun _ => ?_)
    refine j_aload_n C dX5_take_10 rfl rfl ?_
    refine j_iload_n C dX5_take_11 rfl rfl ?_
    refine j_iload C dX5_take_12 rfl ?_
    refine j_calliv C (c_X5_hasAll _ _ _ _ K hK _ _ ) dX5_take_14 jm_RX5_26 ⟨_, _, _, _, wO (cRw hK), rfl, rfl⟩ ⟨by decide, by decide, by decide, by decide⟩ rfl (Nat.le_of_ble_eq_true rfl) (fun r z hz => ?_)
    obtain ⟨hb, hz⟩ := hz; have hz := hz.symm; subst hz
    rcases hb with ⟨rfl, b_2⟩ | ⟨rfl, b_2⟩
    · skip
      refine j_if_eq (tgt := 35) C dX5_take_17 (by decide) (fun c => absurd c (by decide)) (fun _ => ?_)
      refine j_aload_n C dX5_take_20 rfl rfl ?_
      refine j_get C dX5_take_21 jf_RX5_9 (wO (cRw hK2)) rfl ?_
      refine j_iload_n C dX5_take_24 rfl rfl ?_
      refine j_aload_n C dX5_take_25 rfl rfl ?_
      refine j_get C dX5_take_26 jf_RX5_9 (wO (cRw hK)) rfl ?_
      refine j_iload_n C dX5_take_29 rfl rfl ?_
      refine j_iload C dX5_take_30 rfl ?_
      have h4 : p.toNatClampNeg + n.toNatClampNeg ≤ 40 := cl_add b_1
      have h5 : q.toNatClampNeg + n.toNatClampNeg ≤ 40 := cl_add b_2
      refine j_copy C p.toNatClampNeg q.toNatClampNeg n.toNatClampNeg dX5_take_32 jy_RX5_30 (wA (cRwI hK2)) (wA (cRwI hK)) (cl_nI b_1.1) (cl_nI b_2.1) (cl_nI b_1.2.1) h4 h5 (by decide) (by decide) (by decide) (by decide +kernel) (gW_set _ ((cRwI hK).2 _)) ?_
      refine hret _ _ _ dX5_take_35 ?_
      first | exact (if_pos ⟨b_1, b_2⟩).symm | exact (if_neg (fun h => b_1 h.1)).symm | exact (if_neg (fun h => b_2 h.2)).symm
    · skip
      refine j_if_eq (tgt := 35) C dX5_take_17 (by decide) (fun _ => ?_) (fun c => absurd (by decide) c)
      refine hret _ _ _ dX5_take_35 ?_
      first | exact (if_pos ⟨b_1, b_2⟩).symm | exact (if_neg (fun h => b_1 h.1)).symm | exact (if_neg (fun h => b_2 h.2)).symm
  · skip
    refine j_if_eq (tgt := 35) C dX5_take_7 (by decide) (fun _ => ?_) (fun c => absurd (by decide) c)
    refine hret _ _ _ dX5_take_35 ?_
    first | exact (if_pos ⟨b_1, b_2⟩).symm | exact (if_neg (fun h => b_1 h.1)).symm | exact (if_neg (fun h => b_2 h.2)).symm

