set_option maxHeartbeats 4000000 in
set_option maxRecDepth 100000 in
theorem c_X9_isIn (l : Launch) (g : jG) {S : Type} (wd : S → va_W) (x : S) (v : Int32) (b : Int32)  : Ci l g yX9_isIn cX9_isIn 2 .boolean 0 0 0 0 wd [.int v, .int b] x (fun r z => ((r = 1 ∧ (0 ≤ v ∧ v < b)) ∨ (r = 0 ∧ ¬ ((0 ≤ v ∧ v < b)))) ∧ z = x) := by
  refine mk_i (by decide +kernel) rfl (fun KK hKl hKg C hin hret => ?_)
  subst hKl; subst hKg
  refine j_lv (lv' := [(0, _), (1, _)]) rfl ?_
  refine j_iload_n C dX9_isIn_0 rfl rfl ?_
  refine j_if_lt (tgt := 13) C dX9_isIn_1 (by decide) (fun c_1 => ?_) (fun c_1 => ?_)
  · skip
    refine j_iconst (v := 0) C dX9_isIn_13 rfl ?_
    refine hret _ _ _ _ dX9_isIn_14 rfl ?_
    exact ⟨Or.inr ⟨rfl, by simp only [Int32.lt_iff_toInt_lt, Int32.le_iff_toInt_le, ← Int32.toInt_inj, Int32.reduceToInt] at c_1 ⊢; omega⟩, rfl⟩
  · skip
    refine j_iload_n C dX9_isIn_4 rfl rfl ?_
    refine j_iload_n C dX9_isIn_5 rfl rfl ?_
    refine j_icmp_ge (tgt := 13) C dX9_isIn_6 (by decide) (fun c_2 => ?_) (fun c_2 => ?_)
    · skip
      refine j_iconst (v := 0) C dX9_isIn_13 rfl ?_
      refine hret _ _ _ _ dX9_isIn_14 rfl ?_
      exact ⟨Or.inr ⟨rfl, by simp only [Int32.lt_iff_toInt_lt, Int32.le_iff_toInt_le, ← Int32.toInt_inj, Int32.reduceToInt] at c_1 c_2 ⊢; omega⟩, rfl⟩
    · skip
      refine j_iconst (v := 1) C dX9_isIn_9 rfl ?_
      refine j_goto (tgt := 14) C dX9_isIn_10 (by decide) ?_
      refine hret _ _ _ _ dX9_isIn_14 rfl ?_
      exact ⟨Or.inl ⟨rfl, by simp only [Int32.lt_iff_toInt_lt, Int32.le_iff_toInt_le, ← Int32.toInt_inj, Int32.reduceToInt] at c_1 c_2 ⊢; omega⟩, rfl⟩
set_option maxHeartbeats 4000000 in
set_option maxRecDepth 100000 in
theorem c_X9_within (l : Launch) (g : jG) {S : Type} (wd : S → va_W) (x : S) (v : Int32) (lw : Int32) (hi : Int32) (hle : lw ≤ hi) : Ci l g yX9_within cX9_within 3 .int 1 14 0 0 wd [.int v, .int lw, .int hi] x (fun r z => r = wiS v lw hi ∧ z = x) := by
  refine mk_i (by decide +kernel) rfl (fun KK hKl hKg C hin hret => ?_)
  subst hKl; subst hKg
  refine j_lv (lv' := [(0, _), (1, _), (2, _)]) rfl ?_
  refine j_iload_n C dX9_within_0 rfl rfl ?_
  refine j_iload_n C dX9_within_1 rfl rfl ?_
  refine j_iload_n C dX9_within_2 rfl rfl ?_
  refine j_mmin C dX9_within_3 jx_RX9_303 (by decide) (Nat.le_of_ble_eq_true rfl) (by decide) (by decide) ?_
  refine j_mmax C dX9_within_6 jx_RX9_308 (by decide) (Nat.le_of_ble_eq_true rfl) (by decide) (by decide) ?_
  refine hret _ _ _ _ dX9_within_9 rfl ?_
  exact ⟨wi_mm hle, rfl⟩
set_option maxHeartbeats 4000000 in
set_option maxRecDepth 100000 in
theorem c_X8_become (l : Launch) (g : jG) (a : Nat → Nat) (M : (Nat → Nat → Int32)) (K : Nat) (hK : isWk K) (p : Int32) (q : Int32) (t : Int32)  : Cv l g yX8_become cX8_become 4 0 0 0 0 (cW g a) [.ref (a K), .int p, .int q, .int t] M (fun z => z = uM (uM (uM M K 0 p) K 1 q) K 2 t) := by
  refine mk_v (by decide +kernel) rfl (fun KK hKl hKg C hin hret => ?_)
  subst hKl; subst hKg
  refine j_lv (lv' := [(0, _), (1, _), (2, _), (3, _)]) rfl ?_
  refine j_aload_n C dX8_become_0 rfl rfl ?_
  refine j_iload_n C dX8_become_1 rfl rfl ?_
  refine j_put C dX8_become_2 jp_RX8_7 (wO (cWk hK)) (Nat.le_of_ble_eq_true rfl) rfl rfl (sO (cWk hK) 0 _ rfl) ?_
  refine j_aload_n C dX8_become_5 rfl rfl ?_
  refine j_iload_n C dX8_become_6 rfl rfl ?_
  refine j_put C dX8_become_7 jp_RX8_13 (wO (cWk hK)) (Nat.le_of_ble_eq_true rfl) rfl rfl (sO (cWk hK) 1 _ rfl) ?_
  refine j_aload_n C dX8_become_10 rfl rfl ?_
  refine j_iload_n C dX8_become_11 rfl rfl ?_
  refine j_put C dX8_become_12 jp_RX8_16 (wO (cWk hK)) (Nat.le_of_ble_eq_true rfl) rfl rfl (sO (cWk hK) 2 _ rfl) ?_
  refine hret _ _ _ dX8_become_15 ?_
  exact rfl
set_option maxHeartbeats 4000000 in
set_option maxRecDepth 100000 in
theorem c_X8_passes (l : Launch) (g : jG) (a : Nat → Nat) (M : (Nat → Nat → Int32)) (K : Nat) (hK : isWk K) (p : Int32)  : Ci l g yX8_passes cX8_passes 2 .boolean 1 14 0 0 (cW g a) [.ref (a K), .int p] M (fun r z => ((r = 1 ∧ (pas (M K 0) (M K 1) p)) ∨ (r = 0 ∧ ¬ ((pas (M K 0) (M K 1) p)))) ∧ z = M) := by
  refine mk_i (by decide +kernel) rfl (fun KK hKl hKg C hin hret => ?_)
  subst hKl; subst hKg
  refine j_lv (lv' := [(0, _), (1, _)]) rfl ?_
  refine j_iload_n C dX8_passes_0 rfl rfl ?_
  refine j_aload_n C dX8_passes_1 rfl rfl ?_
  refine j_get C dX8_passes_2 jf_RX8_7 (wO (cWk hK)) rfl ?_
  refine j_aload_n C dX8_passes_5 rfl rfl ?_
  refine j_get C dX8_passes_6 jf_RX8_13 (wO (cWk hK)) rfl ?_
  refine j_mmin C dX8_passes_9 jx_RX8_19 (by decide) (Nat.le_of_ble_eq_true rfl) (by decide) (by decide) ?_
  refine j_icmp_lt (tgt := 34) C dX8_passes_12 (by decide) (fun c_1 => ?_) (fun c_1 => ?_)
  · skip
    refine j_iconst (v := 0) C dX8_passes_34 rfl ?_
    refine hret _ _ _ _ dX8_passes_35 rfl ?_
    refine ⟨(bool_i pas_mm).mp (Or.inr ⟨rfl, by simp only [Int32.lt_iff_toInt_lt, Int32.le_iff_toInt_le] at c_1 ⊢; omega⟩), rfl⟩
  · skip
    refine j_iload_n C dX8_passes_15 rfl rfl ?_
    refine j_aload_n C dX8_passes_16 rfl rfl ?_
    refine j_get C dX8_passes_17 jf_RX8_7 (wO (cWk hK)) rfl ?_
    refine j_aload_n C dX8_passes_20 rfl rfl ?_
    refine j_get C dX8_passes_21 jf_RX8_13 (wO (cWk hK)) rfl ?_
    refine j_mmax C dX8_passes_24 jx_RX8_25 (by decide) (Nat.le_of_ble_eq_true rfl) (by decide) (by decide) ?_
    refine j_icmp_gt (tgt := 34) C dX8_passes_27 (by decide) (fun c_2 => ?_) (fun c_2 => ?_)
    · skip
      refine j_iconst (v := 0) C dX8_passes_34 rfl ?_
      refine hret _ _ _ _ dX8_passes_35 rfl ?_
      refine ⟨(bool_i pas_mm).mp (Or.inr ⟨rfl, by simp only [Int32.lt_iff_toInt_lt, Int32.le_iff_toInt_le] at c_1 c_2 ⊢; omega⟩), rfl⟩
    · skip
      refine j_iconst (v := 1) C dX8_passes_30 rfl ?_
      refine j_goto (tgt := 35) C dX8_passes_31 (by decide) ?_
      refine hret _ _ _ _ dX8_passes_35 rfl ?_
      refine ⟨(bool_i pas_mm).mp (Or.inl ⟨rfl, by simp only [Int32.lt_iff_toInt_lt, Int32.le_iff_toInt_le] at c_1 c_2 ⊢; omega⟩), rfl⟩
set_option maxHeartbeats 4000000 in
set_option maxRecDepth 100000 in
theorem c_X8_passed (l : Launch) (g : jG) (a : Nat → Nat) (M : (Nat → Nat → Int32)) (K : Nat) (hK : isWk K)  : Ci l g yX8_passed cX8_passed 1 .int 1 13 0 0 (cW g a) [.ref (a K)] M (fun r z => r = (if 0 ≤ M K 1 - M K 0 then M K 1 - M K 0 else 0 - (M K 1 - M K 0)) + 1 ∧ z = M) := by
  refine mk_i (by decide +kernel) rfl (fun KK hKl hKg C hin hret => ?_)
  subst hKl; subst hKg
  refine j_lv (lv' := [(0, _)]) rfl ?_
  refine j_aload_n C dX8_passed_0 rfl rfl ?_
  refine j_get C dX8_passed_1 jf_RX8_13 (wO (cWk hK)) rfl ?_
  refine j_aload_n C dX8_passed_4 rfl rfl ?_
  refine j_get C dX8_passed_5 jf_RX8_7 (wO (cWk hK)) rfl ?_
  refine j_isub C dX8_passed_8 ?_
  refine j_mabs C dX8_passed_9 jx_RX8_28 (by decide) (Nat.le_of_ble_eq_true rfl) (by decide) (by decide) ?_
  refine j_iconst (v := 1) C dX8_passed_12 rfl ?_
  refine j_iadd C dX8_passed_13 ?_
  refine hret _ _ _ _ dX8_passed_14 rfl ?_
  exact ⟨rfl, rfl⟩
set_option maxHeartbeats 4000000 in
set_option maxRecDepth 100000 in
theorem c_X1_come (l : Launch) (g : jG) (a : Nat → Nat) (M : (Nat → Nat → Int32)) (K : Nat) (hK : isGl K) (k : Int32) (n : Int32) (p : Int32)  : Cv l g yX1_come cX1_come 4 0 0 0 0 (cW g a) [.ref (a K), .int k, .int n, .int p] M (fun z => z = uM (uM (uM (uM (uM M K 0 k) K 1 n) K 2 p) K 3 2) K 4 0) := by
  refine mk_v (by decide +kernel) rfl (fun KK hKl hKg C hin hret => ?_)
  subst hKl; subst hKg
  refine j_lv (lv' := [(0, _), (1, _), (2, _), (3, _)]) rfl ?_
  refine j_aload_n C dX1_come_0 rfl rfl ?_
  refine j_iload_n C dX1_come_1 rfl rfl ?_
  refine j_put C dX1_come_2 jp_RX1_9 (wO (cGl hK)) (Nat.le_of_ble_eq_true rfl) rfl rfl (sO (cGl hK) 0 _ rfl) ?_
  refine j_aload_n C dX1_come_5 rfl rfl ?_
  refine j_iload_n C dX1_come_6 rfl rfl ?_
  refine j_put C dX1_come_7 jp_RX1_15 (wO (cGl hK)) (Nat.le_of_ble_eq_true rfl) rfl rfl (sO (cGl hK) 1 _ rfl) ?_
  refine j_aload_n C dX1_come_10 rfl rfl ?_
  refine j_iload_n C dX1_come_11 rfl rfl ?_
  refine j_put C dX1_come_12 jp_RX1_18 (wO (cGl hK)) (Nat.le_of_ble_eq_true rfl) rfl rfl (sO (cGl hK) 2 _ rfl) ?_
  refine j_aload_n C dX1_come_15 rfl rfl ?_
  refine j_iconst (v := 2) C dX1_come_16 rfl ?_
  refine j_put C dX1_come_17 jp_RX1_21 (wO (cGl hK)) (Nat.le_of_ble_eq_true rfl) rfl rfl (sO (cGl hK) 3 _ rfl) ?_
  refine j_aload_n C dX1_come_20 rfl rfl ?_
  refine j_iconst (v := 0) C dX1_come_21 rfl ?_
  refine j_put C dX1_come_22 jp_RX1_24 (wO (cGl hK)) (Nat.le_of_ble_eq_true rfl) rfl rfl (sO (cGl hK) 4 _ rfl) ?_
  refine hret _ _ _ dX1_come_25 ?_
  exact rfl
set_option maxHeartbeats 4000000 in
set_option maxRecDepth 100000 in
theorem c_X1_become (l : Launch) (g : jG) (a : Nat → Nat) (M : (Nat → Nat → Int32)) (K : Nat) (hK : isGl K) (G : Nat) (hG : isGl G)  : Cv l g yX1_become cX1_become 2 0 0 0 0 (cW g a) [.ref (a K), .ref (a G)] M (fun z => (∀ k, k ≠ K → z k = M k) ∧ ∀ i, i < 5 → z K i = M G i) := by
  refine mk_v (by decide +kernel) rfl (fun KK hKl hKg C hin hret => ?_)
  subst hKl; subst hKg
  refine j_lv (lv' := [(0, _), (1, _)]) rfl ?_
  refine j_aload_n C dX1_become_0 rfl rfl ?_
  refine j_aload_n C dX1_become_1 rfl rfl ?_
  refine j_get C dX1_become_2 jf_RX1_9 (wO (cGl hG)) rfl ?_
  refine j_put C dX1_become_5 jp_RX1_9 (wO (cGl hK)) (Nat.le_of_ble_eq_true rfl) rfl rfl (sO (cGl hK) 0 _ rfl) ?_
  refine j_aload_n C dX1_become_8 rfl rfl ?_
  refine j_aload_n C dX1_become_9 rfl rfl ?_
  refine j_get C dX1_become_10 jf_RX1_15 (wO (cGl hG)) rfl ?_
  refine j_put C dX1_become_13 jp_RX1_15 (wO (cGl hK)) (Nat.le_of_ble_eq_true rfl) rfl rfl (sO (cGl hK) 1 _ rfl) ?_
  refine j_aload_n C dX1_become_16 rfl rfl ?_
  refine j_aload_n C dX1_become_17 rfl rfl ?_
  refine j_get C dX1_become_18 jf_RX1_18 (wO (cGl hG)) rfl ?_
  refine j_put C dX1_become_21 jp_RX1_18 (wO (cGl hK)) (Nat.le_of_ble_eq_true rfl) rfl rfl (sO (cGl hK) 2 _ rfl) ?_
  refine j_aload_n C dX1_become_24 rfl rfl ?_
  refine j_aload_n C dX1_become_25 rfl rfl ?_
  refine j_get C dX1_become_26 jf_RX1_21 (wO (cGl hG)) rfl ?_
  refine j_put C dX1_become_29 jp_RX1_21 (wO (cGl hK)) (Nat.le_of_ble_eq_true rfl) rfl rfl (sO (cGl hK) 3 _ rfl) ?_
  refine j_aload_n C dX1_become_32 rfl rfl ?_
  refine j_aload_n C dX1_become_33 rfl rfl ?_
  refine j_get C dX1_become_34 jf_RX1_24 (wO (cGl hG)) rfl ?_
  refine j_put C dX1_become_37 jp_RX1_24 (wO (cGl hK)) (Nat.le_of_ble_eq_true rfl) rfl rfl (sO (cGl hK) 4 _ rfl) ?_
  refine hret _ _ _ dX1_become_40 ?_
  refine ⟨fun k h => by simp only [uM_ne h], fun i hi => ?_⟩
  by_cases hGK : G = K
  · subst hGK
    simp only [uM_all]
    repeat' split
    all_goals simp_all
  · have h5 : i = 0 ∨ i = 1 ∨ i = 2 ∨ i = 3 ∨ i = 4 := by omega
    rcases h5 with rfl | rfl | rfl | rfl | rfl <;> simp [uM_all, hGK]
set_option maxHeartbeats 4000000 in
set_option maxRecDepth 100000 in
theorem c_X1_lasts (l : Launch) (g : jG) (a : Nat → Nat) (M : (Nat → Nat → Int32)) (K : Nat) (hK : isGl K)  : Ci l g yX1_lasts cX1_lasts 1 .int 0 0 0 0 (cW g a) [.ref (a K)] M (fun r z => r = laS (M K) ∧ z = M) := by
  refine mk_i (by decide +kernel) rfl (fun KK hKl hKg C hin hret => ?_)
  subst hKl; subst hKg
  refine j_lv (lv' := [(0, _)]) rfl ?_
  refine j_aload_n C dX1_lasts_0 rfl rfl ?_
  refine j_get C dX1_lasts_1 jf_RX1_9 (wO (cGl hK)) rfl ?_
  by_cases s_1 : (M K 0) = 1
  · refine j_tableIn (off := 36) (tgt := 40) C dX1_lasts_4 (by rw [s_1]; decide) (by rw [s_1]; decide) (by rw [s_1]; rfl) (by decide) ?_
    refine j_bipush (v := 20) C dX1_lasts_40 rfl ?_
    refine j_aload_n C dX1_lasts_42 rfl rfl ?_
    refine j_get C dX1_lasts_43 jf_RX1_15 (wO (cGl hK)) rfl ?_
    refine j_iadd C dX1_lasts_46 ?_
    refine hret _ _ _ _ dX1_lasts_47 rfl ?_
    refine ⟨?_, rfl⟩; simp [laS, *]
  by_cases s_2 : (M K 0) = 2
  · refine j_tableIn (off := 50) (tgt := 54) C dX1_lasts_4 (by rw [s_2]; decide) (by rw [s_2]; decide) (by rw [s_2]; rfl) (by decide) ?_
    refine j_bipush (v := 20) C dX1_lasts_54 rfl ?_
    refine hret _ _ _ _ dX1_lasts_56 rfl ?_
    refine ⟨?_, rfl⟩; simp [laS, *]
  by_cases s_3 : (M K 0) = 3
  · refine j_tableIn (off := 36) (tgt := 40) C dX1_lasts_4 (by rw [s_3]; decide) (by rw [s_3]; decide) (by rw [s_3]; rfl) (by decide) ?_
    refine j_bipush (v := 20) C dX1_lasts_40 rfl ?_
    refine j_aload_n C dX1_lasts_42 rfl rfl ?_
    refine j_get C dX1_lasts_43 jf_RX1_15 (wO (cGl hK)) rfl ?_
    refine j_iadd C dX1_lasts_46 ?_
    refine hret _ _ _ _ dX1_lasts_47 rfl ?_
    refine ⟨?_, rfl⟩; simp [laS, *]
  by_cases s_4 : (M K 0) = 4
  · refine j_tableIn (off := 44) (tgt := 48) C dX1_lasts_4 (by rw [s_4]; decide) (by rw [s_4]; decide) (by rw [s_4]; rfl) (by decide) ?_
    refine j_bipush (v := 10) C dX1_lasts_48 rfl ?_
    refine hret _ _ _ _ dX1_lasts_50 rfl ?_
    refine ⟨?_, rfl⟩; simp [laS, *]
  by_cases s_5 : (M K 0) = 5
  · refine j_tableIn (off := 47) (tgt := 51) C dX1_lasts_4 (by rw [s_5]; decide) (by rw [s_5]; decide) (by rw [s_5]; rfl) (by decide) ?_
    refine j_bipush (v := 30) C dX1_lasts_51 rfl ?_
    refine hret _ _ _ _ dX1_lasts_53 rfl ?_
    refine ⟨?_, rfl⟩; simp [laS, *]
  have hsw : (M K 0).toInt < 1 ∨ 5 < (M K 0).toInt := by
    have q1 : ¬ (M K 0).toInt = 1 := lv_neT s_1 rfl
    have q2 : ¬ (M K 0).toInt = 2 := lv_neT s_2 rfl
    have q3 : ¬ (M K 0).toInt = 3 := lv_neT s_3 rfl
    have q4 : ¬ (M K 0).toInt = 4 := lv_neT s_4 rfl
    have q5 : ¬ (M K 0).toInt = 5 := lv_neT s_5 rfl
    omega
  refine j_tableOut (tgt := 54) C dX1_lasts_4 hsw (by decide) ?_
  refine j_bipush (v := 20) C dX1_lasts_54 rfl ?_
  refine hret _ _ _ _ dX1_lasts_56 rfl ?_
  refine ⟨?_, rfl⟩; simp [laS, *]
set_option maxHeartbeats 4000000 in
set_option maxRecDepth 100000 in
theorem c_X1_showing (l : Launch) (g : jG) (a : Nat → Nat) (M : (Nat → Nat → Int32)) (K : Nat) (hK : isGl K) (v : Int32) (s : Int32)  : Ci l g yX1_showing cX1_showing 4 .int 2 36 0 0 (cW g a) [.ref (a K), .int v, .int s] M (fun r z => r = shS (M K) v s ∧ z = M) := by
  refine mk_i (by decide +kernel) rfl (fun KK hKl hKg C hin hret => ?_)
  subst hKl; subst hKg
  refine j_lv (lv' := [(0, _), (1, _), (2, _)]) rfl ?_
  refine j_aload_n C dX1_showing_0 rfl rfl ?_
  refine j_get C dX1_showing_1 jf_RX1_24 (wO (cGl hK)) rfl ?_
  refine j_iload_n C dX1_showing_4 rfl rfl ?_
  refine j_icmp_ne (tgt := 12) C dX1_showing_5 (by decide) (fun c_1 => ?_) (fun c_1 => ?_)
  · skip
    refine j_iload_n C dX1_showing_12 rfl rfl ?_
    refine j_iconst (v := 2) C dX1_showing_13 rfl ?_
    refine j_idiv C dX1_showing_14 (by decide) ?_
    refine j_istore_n (lv' := [(3, _), (0, _), (1, _), (2, _)]) C dX1_showing_15 rfl (by decide) rfl ?_
    refine j_aload_n C dX1_showing_16 rfl rfl ?_
    refine j_get C dX1_showing_17 jf_RX1_9 (wO (cGl hK)) rfl ?_
    by_cases s_2 : (M K 0) = 1
    · refine j_tableIn (off := 36) (tgt := 56) C dX1_showing_20 (by rw [s_2]; decide) (by rw [s_2]; decide) (by rw [s_2]; rfl) (by decide) ?_
      refine j_iload_n C dX1_showing_56 rfl rfl ?_
      refine j_iconst (v := 2) C dX1_showing_57 rfl ?_
      refine j_idiv C dX1_showing_58 (by decide) ?_
      refine j_iconst (v := 0) C dX1_showing_59 rfl ?_
      refine j_bipush (v := 100) C dX1_showing_60 rfl ?_
      refine j_callisN C (c_X9_within _ _ _ _ _ _ _ (by decide)) dX1_showing_62 jmn_RX1_27 ⟨by decide, by decide, by decide, by decide⟩ rfl (Nat.le_of_ble_eq_true rfl) (fun r z hz => ?_)
      obtain ⟨hr, hz⟩ := hz; have hr := hr.symm; have hz := hz.symm; subst hr; subst hz
      refine hret _ _ _ _ dX1_showing_65 rfl ?_
      refine ⟨?_, rfl⟩; simp [shS, *]
    by_cases s_3 : (M K 0) = 2
    · refine j_tableIn (off := 61) (tgt := 81) C dX1_showing_20 (by rw [s_3]; decide) (by rw [s_3]; decide) (by rw [s_3]; rfl) (by decide) ?_
      refine j_iload_n C dX1_showing_81 rfl rfl ?_
      refine j_bipush (v := 20) C dX1_showing_82 rfl ?_
      refine j_iadd C dX1_showing_84 ?_
      refine j_iconst (v := 0) C dX1_showing_85 rfl ?_
      refine j_bipush (v := 100) C dX1_showing_86 rfl ?_
      refine j_callisN C (c_X9_within _ _ _ _ _ _ _ (by decide)) dX1_showing_88 jmn_RX1_27 ⟨by decide, by decide, by decide, by decide⟩ rfl (Nat.le_of_ble_eq_true rfl) (fun r z hz => ?_)
      obtain ⟨hr, hz⟩ := hz; have hr := hr.symm; have hz := hz.symm; subst hr; subst hz
      refine hret _ _ _ _ dX1_showing_91 rfl ?_
      refine ⟨?_, rfl⟩; simp [shS, *]
    by_cases s_4 : (M K 0) = 3
    · refine j_tableIn (off := 46) (tgt := 66) C dX1_showing_20 (by rw [s_4]; decide) (by rw [s_4]; decide) (by rw [s_4]; rfl) (by decide) ?_
      refine j_iload_n C dX1_showing_66 rfl rfl ?_
      refine j_iconst (v := 2) C dX1_showing_67 rfl ?_
      refine j_idiv C dX1_showing_68 (by decide) ?_
      refine j_aload_n C dX1_showing_69 rfl rfl ?_
      refine j_get C dX1_showing_70 jf_RX1_15 (wO (cGl hK)) rfl ?_
      refine j_isub C dX1_showing_73 ?_
      refine j_iconst (v := 0) C dX1_showing_74 rfl ?_
      refine j_bipush (v := 100) C dX1_showing_75 rfl ?_
      refine j_callisN C (c_X9_within _ _ _ _ _ _ _ (by decide)) dX1_showing_77 jmn_RX1_27 ⟨by decide, by decide, by decide, by decide⟩ rfl (Nat.le_of_ble_eq_true rfl) (fun r z hz => ?_)
      obtain ⟨hr, hz⟩ := hz; have hr := hr.symm; have hz := hz.symm; subst hr; subst hz
      refine hret _ _ _ _ dX1_showing_80 rfl ?_
      refine ⟨?_, rfl⟩; simp [shS, *]
    by_cases s_5 : (M K 0) = 4
    · refine j_tableIn (off := 61) (tgt := 81) C dX1_showing_20 (by rw [s_5]; decide) (by rw [s_5]; decide) (by rw [s_5]; rfl) (by decide) ?_
      refine j_iload_n C dX1_showing_81 rfl rfl ?_
      refine j_bipush (v := 20) C dX1_showing_82 rfl ?_
      refine j_iadd C dX1_showing_84 ?_
      refine j_iconst (v := 0) C dX1_showing_85 rfl ?_
      refine j_bipush (v := 100) C dX1_showing_86 rfl ?_
      refine j_callisN C (c_X9_within _ _ _ _ _ _ _ (by decide)) dX1_showing_88 jmn_RX1_27 ⟨by decide, by decide, by decide, by decide⟩ rfl (Nat.le_of_ble_eq_true rfl) (fun r z hz => ?_)
      obtain ⟨hr, hz⟩ := hz; have hr := hr.symm; have hz := hz.symm; subst hr; subst hz
      refine hret _ _ _ _ dX1_showing_91 rfl ?_
      refine ⟨?_, rfl⟩; simp [shS, *]
    by_cases s_6 : (M K 0) = 5
    · refine j_tableIn (off := 72) (tgt := 92) C dX1_showing_20 (by rw [s_6]; decide) (by rw [s_6]; decide) (by rw [s_6]; rfl) (by decide) ?_
      refine j_iload_n C dX1_showing_92 rfl rfl ?_
      refine j_aload_n C dX1_showing_93 rfl rfl ?_
      refine j_get C dX1_showing_94 jf_RX1_15 (wO (cGl hK)) rfl ?_
      refine j_iadd C dX1_showing_97 ?_
      refine j_iconst (v := 0) C dX1_showing_98 rfl ?_
      refine j_bipush (v := 100) C dX1_showing_99 rfl ?_
      refine j_callisN C (c_X9_within _ _ _ _ _ _ _ (by decide)) dX1_showing_101 jmn_RX1_27 ⟨by decide, by decide, by decide, by decide⟩ rfl (Nat.le_of_ble_eq_true rfl) (fun r z hz => ?_)
      obtain ⟨hr, hz⟩ := hz; have hr := hr.symm; have hz := hz.symm; subst hr; subst hz
      refine hret _ _ _ _ dX1_showing_104 rfl ?_
      refine ⟨?_, rfl⟩; simp [shS, *]
    have hsw : (M K 0).toInt < 1 ∨ 5 < (M K 0).toInt := by
      have q1 : ¬ (M K 0).toInt = 1 := lv_neT s_2 rfl
      have q2 : ¬ (M K 0).toInt = 2 := lv_neT s_3 rfl
      have q3 : ¬ (M K 0).toInt = 3 := lv_neT s_4 rfl
      have q4 : ¬ (M K 0).toInt = 4 := lv_neT s_5 rfl
      have q5 : ¬ (M K 0).toInt = 5 := lv_neT s_6 rfl
      omega
    refine j_tableOut (tgt := 105) C dX1_showing_20 hsw (by decide) ?_
    refine j_iload_n C dX1_showing_105 rfl rfl ?_
    refine j_iconst (v := 0) C dX1_showing_106 rfl ?_
    refine j_bipush (v := 100) C dX1_showing_107 rfl ?_
    refine j_callisN C (c_X9_within _ _ _ _ _ _ _ (by decide)) dX1_showing_109 jmn_RX1_27 ⟨by decide, by decide, by decide, by decide⟩ rfl (Nat.le_of_ble_eq_true rfl) (fun r z hz => ?_)
    obtain ⟨hr, hz⟩ := hz; have hr := hr.symm; have hz := hz.symm; subst hr; subst hz
    refine hret _ _ _ _ dX1_showing_112 rfl ?_
    refine ⟨?_, rfl⟩; simp [shS, *]
  · skip
    refine j_iload_n C dX1_showing_8 rfl rfl ?_
    refine j_goto (tgt := 15) C dX1_showing_9 (by decide) ?_
    refine j_istore_n (lv' := [(3, _), (0, _), (1, _), (2, _)]) C dX1_showing_15 rfl (by decide) rfl ?_
    refine j_aload_n C dX1_showing_16 rfl rfl ?_
    refine j_get C dX1_showing_17 jf_RX1_9 (wO (cGl hK)) rfl ?_
    by_cases s_7 : (M K 0) = 1
    · refine j_tableIn (off := 36) (tgt := 56) C dX1_showing_20 (by rw [s_7]; decide) (by rw [s_7]; decide) (by rw [s_7]; rfl) (by decide) ?_
      refine j_iload_n C dX1_showing_56 rfl rfl ?_
      refine j_iconst (v := 2) C dX1_showing_57 rfl ?_
      refine j_idiv C dX1_showing_58 (by decide) ?_
      refine j_iconst (v := 0) C dX1_showing_59 rfl ?_
      refine j_bipush (v := 100) C dX1_showing_60 rfl ?_
      refine j_callisN C (c_X9_within _ _ _ _ _ _ _ (by decide)) dX1_showing_62 jmn_RX1_27 ⟨by decide, by decide, by decide, by decide⟩ rfl (Nat.le_of_ble_eq_true rfl) (fun r z hz => ?_)
      obtain ⟨hr, hz⟩ := hz; have hr := hr.symm; have hz := hz.symm; subst hr; subst hz
      refine hret _ _ _ _ dX1_showing_65 rfl ?_
      refine ⟨?_, rfl⟩; simp [shS, *]
    by_cases s_8 : (M K 0) = 2
    · refine j_tableIn (off := 61) (tgt := 81) C dX1_showing_20 (by rw [s_8]; decide) (by rw [s_8]; decide) (by rw [s_8]; rfl) (by decide) ?_
      refine j_iload_n C dX1_showing_81 rfl rfl ?_
      refine j_bipush (v := 20) C dX1_showing_82 rfl ?_
      refine j_iadd C dX1_showing_84 ?_
      refine j_iconst (v := 0) C dX1_showing_85 rfl ?_
      refine j_bipush (v := 100) C dX1_showing_86 rfl ?_
      refine j_callisN C (c_X9_within _ _ _ _ _ _ _ (by decide)) dX1_showing_88 jmn_RX1_27 ⟨by decide, by decide, by decide, by decide⟩ rfl (Nat.le_of_ble_eq_true rfl) (fun r z hz => ?_)
      obtain ⟨hr, hz⟩ := hz; have hr := hr.symm; have hz := hz.symm; subst hr; subst hz
      refine hret _ _ _ _ dX1_showing_91 rfl ?_
      refine ⟨?_, rfl⟩; simp [shS, *]
    by_cases s_9 : (M K 0) = 3
    · refine j_tableIn (off := 46) (tgt := 66) C dX1_showing_20 (by rw [s_9]; decide) (by rw [s_9]; decide) (by rw [s_9]; rfl) (by decide) ?_
      refine j_iload_n C dX1_showing_66 rfl rfl ?_
      refine j_iconst (v := 2) C dX1_showing_67 rfl ?_
      refine j_idiv C dX1_showing_68 (by decide) ?_
      refine j_aload_n C dX1_showing_69 rfl rfl ?_
      refine j_get C dX1_showing_70 jf_RX1_15 (wO (cGl hK)) rfl ?_
      refine j_isub C dX1_showing_73 ?_
      refine j_iconst (v := 0) C dX1_showing_74 rfl ?_
      refine j_bipush (v := 100) C dX1_showing_75 rfl ?_
      refine j_callisN C (c_X9_within _ _ _ _ _ _ _ (by decide)) dX1_showing_77 jmn_RX1_27 ⟨by decide, by decide, by decide, by decide⟩ rfl (Nat.le_of_ble_eq_true rfl) (fun r z hz => ?_)
      obtain ⟨hr, hz⟩ := hz; have hr := hr.symm; have hz := hz.symm; subst hr; subst hz
      refine hret _ _ _ _ dX1_showing_80 rfl ?_
      refine ⟨?_, rfl⟩; simp [shS, *]
    by_cases s_10 : (M K 0) = 4
    · refine j_tableIn (off := 61) (tgt := 81) C dX1_showing_20 (by rw [s_10]; decide) (by rw [s_10]; decide) (by rw [s_10]; rfl) (by decide) ?_
      refine j_iload_n C dX1_showing_81 rfl rfl ?_
      refine j_bipush (v := 20) C dX1_showing_82 rfl ?_
      refine j_iadd C dX1_showing_84 ?_
      refine j_iconst (v := 0) C dX1_showing_85 rfl ?_
      refine j_bipush (v := 100) C dX1_showing_86 rfl ?_
      refine j_callisN C (c_X9_within _ _ _ _ _ _ _ (by decide)) dX1_showing_88 jmn_RX1_27 ⟨by decide, by decide, by decide, by decide⟩ rfl (Nat.le_of_ble_eq_true rfl) (fun r z hz => ?_)
      obtain ⟨hr, hz⟩ := hz; have hr := hr.symm; have hz := hz.symm; subst hr; subst hz
      refine hret _ _ _ _ dX1_showing_91 rfl ?_
      refine ⟨?_, rfl⟩; simp [shS, *]
    by_cases s_11 : (M K 0) = 5
    · refine j_tableIn (off := 72) (tgt := 92) C dX1_showing_20 (by rw [s_11]; decide) (by rw [s_11]; decide) (by rw [s_11]; rfl) (by decide) ?_
      refine j_iload_n C dX1_showing_92 rfl rfl ?_
      refine j_aload_n C dX1_showing_93 rfl rfl ?_
      refine j_get C dX1_showing_94 jf_RX1_15 (wO (cGl hK)) rfl ?_
      refine j_iadd C dX1_showing_97 ?_
      refine j_iconst (v := 0) C dX1_showing_98 rfl ?_
      refine j_bipush (v := 100) C dX1_showing_99 rfl ?_
      refine j_callisN C (c_X9_within _ _ _ _ _ _ _ (by decide)) dX1_showing_101 jmn_RX1_27 ⟨by decide, by decide, by decide, by decide⟩ rfl (Nat.le_of_ble_eq_true rfl) (fun r z hz => ?_)
      obtain ⟨hr, hz⟩ := hz; have hr := hr.symm; have hz := hz.symm; subst hr; subst hz
      refine hret _ _ _ _ dX1_showing_104 rfl ?_
      refine ⟨?_, rfl⟩; simp [shS, *]
    have hsw : (M K 0).toInt < 1 ∨ 5 < (M K 0).toInt := by
      have q1 : ¬ (M K 0).toInt = 1 := lv_neT s_7 rfl
      have q2 : ¬ (M K 0).toInt = 2 := lv_neT s_8 rfl
      have q3 : ¬ (M K 0).toInt = 3 := lv_neT s_9 rfl
      have q4 : ¬ (M K 0).toInt = 4 := lv_neT s_10 rfl
      have q5 : ¬ (M K 0).toInt = 5 := lv_neT s_11 rfl
      omega
    refine j_tableOut (tgt := 105) C dX1_showing_20 hsw (by decide) ?_
    refine j_iload_n C dX1_showing_105 rfl rfl ?_
    refine j_iconst (v := 0) C dX1_showing_106 rfl ?_
    refine j_bipush (v := 100) C dX1_showing_107 rfl ?_
    refine j_callisN C (c_X9_within _ _ _ _ _ _ _ (by decide)) dX1_showing_109 jmn_RX1_27 ⟨by decide, by decide, by decide, by decide⟩ rfl (Nat.le_of_ble_eq_true rfl) (fun r z hz => ?_)
    obtain ⟨hr, hz⟩ := hz; have hr := hr.symm; have hz := hz.symm; subst hr; subst hz
    refine hret _ _ _ _ dX1_showing_112 rfl ?_
    refine ⟨?_, rfl⟩; simp [shS, *]
set_option maxHeartbeats 4000000 in
set_option maxRecDepth 100000 in
theorem c_X1_moving (l : Launch) (g : jG) (a : Nat → Nat) (M : (Nat → Nat → Int32)) (K : Nat) (hK : isGl K) (v : Int32)  : Ci l g yX1_moving cX1_moving 2 .int 0 0 0 0 (cW g a) [.ref (a K), .int v] M (fun r z => r = moS (M K 0) v ∧ z = M) := by
  refine mk_i (by decide +kernel) rfl (fun KK hKl hKg C hin hret => ?_)
  subst hKl; subst hKg
  refine j_lv (lv' := [(0, _), (1, _)]) rfl ?_
  refine j_aload_n C dX1_moving_0 rfl rfl ?_
  refine j_get C dX1_moving_1 jf_RX1_9 (wO (cGl hK)) rfl ?_
  by_cases s_1 : (M K 0) = 2
  · refine j_tableIn (off := 32) (tgt := 36) C dX1_moving_4 (by rw [s_1]; decide) (by rw [s_1]; decide) (by rw [s_1]; rfl) (by decide) ?_
    refine j_iload_n C dX1_moving_36 rfl rfl ?_
    refine j_iconst (v := 2) C dX1_moving_37 rfl ?_
    refine j_imul C dX1_moving_38 ?_
    refine hret _ _ _ _ dX1_moving_39 rfl ?_
    refine ⟨?_, rfl⟩; simp [moS, *]
  by_cases s_2 : (M K 0) = 3
  · refine j_tableIn (off := 36) (tgt := 40) C dX1_moving_4 (by rw [s_2]; decide) (by rw [s_2]; decide) (by rw [s_2]; rfl) (by decide) ?_
    refine j_iload_n C dX1_moving_40 rfl rfl ?_
    refine j_iconst (v := 1) C dX1_moving_41 rfl ?_
    refine j_iadd C dX1_moving_42 ?_
    refine hret _ _ _ _ dX1_moving_43 rfl ?_
    refine ⟨?_, rfl⟩; simp [moS, *]
  by_cases s_3 : (M K 0) = 4
  · refine j_tableIn (off := 40) (tgt := 44) C dX1_moving_4 (by rw [s_3]; decide) (by rw [s_3]; decide) (by rw [s_3]; rfl) (by decide) ?_
    refine j_iload_n C dX1_moving_44 rfl rfl ?_
    refine j_iconst (v := 2) C dX1_moving_45 rfl ?_
    refine j_imul C dX1_moving_46 ?_
    refine j_iconst (v := 1) C dX1_moving_47 rfl ?_
    refine j_isub C dX1_moving_48 ?_
    refine hret _ _ _ _ dX1_moving_49 rfl ?_
    refine ⟨?_, rfl⟩; simp [moS, *]
  by_cases s_4 : (M K 0) = 5
  · refine j_tableIn (off := 46) (tgt := 50) C dX1_moving_4 (by rw [s_4]; decide) (by rw [s_4]; decide) (by rw [s_4]; rfl) (by decide) ?_
    refine j_iload_n C dX1_moving_50 rfl rfl ?_
    refine j_iconst (v := 2) C dX1_moving_51 rfl ?_
    refine j_idiv C dX1_moving_52 (by decide) ?_
    refine hret _ _ _ _ dX1_moving_53 rfl ?_
    refine ⟨?_, rfl⟩; simp [moS, *]
  have hsw : (M K 0).toInt < 2 ∨ 5 < (M K 0).toInt := by
    have q2 : ¬ (M K 0).toInt = 2 := lv_neT s_1 rfl
    have q3 : ¬ (M K 0).toInt = 3 := lv_neT s_2 rfl
    have q4 : ¬ (M K 0).toInt = 4 := lv_neT s_3 rfl
    have q5 : ¬ (M K 0).toInt = 5 := lv_neT s_4 rfl
    omega
  refine j_tableOut (tgt := 54) C dX1_moving_4 hsw (by decide) ?_
  refine j_iload_n C dX1_moving_54 rfl rfl ?_
  refine hret _ _ _ _ dX1_moving_55 rfl ?_
  refine ⟨?_, rfl⟩; simp [moS, *]
