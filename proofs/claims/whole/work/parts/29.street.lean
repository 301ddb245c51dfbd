/-- a sheet's cell K is a row of n of sort p, all 0 -/
def bcX (M z : Nat → Nat → Int32) (K : Nat) (p n : Int32) : Prop := z K = upd (upd (M K) 1 p) 2 n ∧ (∀ j, j < 40 → z (K + 1) j = 0) ∧ ∀ k, k ≠ K → k ≠ K + 1 → z k = M k
/-- gloves by a sheet: what it answers, the state then, how many there are -/
def rnX (it : Nat → Int32) (sz : Int32) : Nat → Int32 → (Nat → Nat → Int32) → Nat → Int32 → Int32 × (Nat → Nat → Int32) × Nat
  | 0, _, M, n, c => (c, M, n)
  | k + 1, p, M, n, c => if 0 ≤ p ∧ 3 ≤ sz ∧ p ≤ sz - 3 then (if glOk (it p.toNatClampNeg) (it (p.toNatClampNeg + 1)) (it (p.toNatClampNeg + 2)) ∧ n < 6 then rnX it sz k (p + 3) (hgX M n (it p.toNatClampNeg) (it (p.toNatClampNeg + 1)) (it (p.toNatClampNeg + 2))) (n + 1) (c + 1) else rnX it sz k (p + 3) M n c) else (-12, M, n)
theorem hgX_0 {M : Nat → Nat → Int32} {n : Nat} {k m p : Int32} : hgX M n k m p 0 1 = nI (n + 1) := uM_s
theorem hgX_f {M : Nat → Nat → Int32} {n : Nat} {k m p : Int32} {q : Nat} (h : q ≠ 0) (h2 : q ≠ 28 + n) : hgX M n k m p q = M q := by
  unfold hgX cmX
  rw [uM_ne h, uM_ne h2, uM_ne h2, uM_ne h2, uM_ne h2, uM_ne h2]

set_option maxHeartbeats 4000000 in
set_option maxRecDepth 100000 in
theorem c_X9_countOf (l : Launch) (g : jG) {S : Type} (wd : S → va_W) (x : S) (w : Int32)  : Ci l g yX9_countOf cX9_countOf 1 .int 0 0 0 0 wd [.int w] x (fun r z => r = cnS w ∧ z = x) := by
  refine mk_i (by decide +kernel) rfl (fun KK hKl hKg C hin hret => ?_)
  subst hKl; subst hKg
  refine j_lv (lv' := [(0, _)]) rfl ?_
  refine j_iload_n C dX9_countOf_0 rfl rfl ?_
  by_cases s_1 : w = 0
  · refine j_tableIn (off := 43) (tgt := 44) C dX9_countOf_1 (by rw [s_1]; decide) (by rw [s_1]; decide) (by rw [s_1]; rfl) (by decide) ?_
    refine j_bipush (v := 20) C dX9_countOf_44 rfl ?_
    refine hret _ _ _ _ dX9_countOf_46 rfl ?_
    refine ⟨?_, rfl⟩; simp [cnS, *]
  by_cases s_2 : w = 1
  · refine j_tableIn (off := 43) (tgt := 44) C dX9_countOf_1 (by rw [s_2]; decide) (by rw [s_2]; decide) (by rw [s_2]; rfl) (by decide) ?_
    refine j_bipush (v := 20) C dX9_countOf_44 rfl ?_
    refine hret _ _ _ _ dX9_countOf_46 rfl ?_
    refine ⟨?_, rfl⟩; simp [cnS, *]
  by_cases s_3 : w = 2
  · refine j_tableIn (off := 46) (tgt := 47) C dX9_countOf_1 (by rw [s_3]; decide) (by rw [s_3]; decide) (by rw [s_3]; rfl) (by decide) ?_
    refine j_iconst (v := 2) C dX9_countOf_47 rfl ?_
    refine hret _ _ _ _ dX9_countOf_48 rfl ?_
    refine ⟨?_, rfl⟩; simp [cnS, *]
  by_cases s_4 : w = 3
  · refine j_tableIn (off := 48) (tgt := 49) C dX9_countOf_1 (by rw [s_4]; decide) (by rw [s_4]; decide) (by rw [s_4]; rfl) (by decide) ?_
    refine j_bipush (v := 10) C dX9_countOf_49 rfl ?_
    refine hret _ _ _ _ dX9_countOf_51 rfl ?_
    refine ⟨?_, rfl⟩; simp [cnS, *]
  by_cases s_5 : w = 4
  · refine j_tableIn (off := 43) (tgt := 44) C dX9_countOf_1 (by rw [s_5]; decide) (by rw [s_5]; decide) (by rw [s_5]; rfl) (by decide) ?_
    refine j_bipush (v := 20) C dX9_countOf_44 rfl ?_
    refine hret _ _ _ _ dX9_countOf_46 rfl ?_
    refine ⟨?_, rfl⟩; simp [cnS, *]
  by_cases s_6 : w = 5
  · refine j_tableIn (off := 51) (tgt := 52) C dX9_countOf_1 (by rw [s_6]; decide) (by rw [s_6]; decide) (by rw [s_6]; rfl) (by decide) ?_
    refine j_iconst (v := 5) C dX9_countOf_52 rfl ?_
    refine hret _ _ _ _ dX9_countOf_53 rfl ?_
    refine ⟨?_, rfl⟩; simp [cnS, *]
  by_cases s_7 : w = 6
  · refine j_tableIn (off := 46) (tgt := 47) C dX9_countOf_1 (by rw [s_7]; decide) (by rw [s_7]; decide) (by rw [s_7]; rfl) (by decide) ?_
    refine j_iconst (v := 2) C dX9_countOf_47 rfl ?_
    refine hret _ _ _ _ dX9_countOf_48 rfl ?_
    refine ⟨?_, rfl⟩; simp [cnS, *]
  have hsw : w.toInt < 0 ∨ 6 < w.toInt := by
    have q0 : ¬ w.toInt = 0 := lv_neT s_1 rfl
    have q1 : ¬ w.toInt = 1 := lv_neT s_2 rfl
    have q2 : ¬ w.toInt = 2 := lv_neT s_3 rfl
    have q3 : ¬ w.toInt = 3 := lv_neT s_4 rfl
    have q4 : ¬ w.toInt = 4 := lv_neT s_5 rfl
    have q5 : ¬ w.toInt = 5 := lv_neT s_6 rfl
    have q6 : ¬ w.toInt = 6 := lv_neT s_7 rfl
    omega
  refine j_tableOut (tgt := 54) C dX9_countOf_1 hsw (by decide) ?_
  refine j_iconst (v := 0) C dX9_countOf_54 rfl ?_
  refine hret _ _ _ _ dX9_countOf_55 rfl ?_
  refine ⟨?_, rfl⟩; simp [cnS, *]
set_option maxHeartbeats 4000000 in
set_option maxRecDepth 100000 in
theorem c_X9_toldOfWalk (l : Launch) (g : jG) (a : Nat → Nat) (M : (Nat → Nat → Int32)) (w : Int32)  : Ci l g yX9_toldOfWalk cX9_toldOfWalk 2 .int 0 0 0 0 (cW g a) [.ref (a 0), .int w] M (fun r z => r = (if w = 0 then M 2 0 else if w = 1 then M 2 1 else M 2 2) ∧ z = M) := by
  refine mk_i (by decide +kernel) rfl (fun KK hKl hKg C hin hret => ?_)
  subst hKl; subst hKg
  refine j_lv (lv' := [(0, _), (1, _)]) rfl ?_
  refine j_iload_n C dX9_toldOfWalk_0 rfl rfl ?_
  refine j_if_ne (tgt := 12) C dX9_toldOfWalk_1 (by decide) (fun c_1 => ?_) (fun c_1 => ?_)
  · skip
    refine j_iload_n C dX9_toldOfWalk_12 rfl rfl ?_
    refine j_iconst (v := 1) C dX9_toldOfWalk_13 rfl ?_
    refine j_icmp_ne (tgt := 27) C dX9_toldOfWalk_14 (by decide) (fun c_2 => ?_) (fun c_2 => ?_)
    · skip
      refine j_aload_n C dX9_toldOfWalk_27 rfl rfl ?_
      refine j_get C dX9_toldOfWalk_28 jf_RX9_18 (wO cX0) rfl ?_
      refine j_get C dX9_toldOfWalk_31 jf_RX9_127 (wO (cWk (Or.inl rfl))) rfl ?_
      refine hret _ _ _ _ dX9_toldOfWalk_34 rfl ?_
      refine ⟨?_, rfl⟩; simp [*]
    · skip
      refine j_aload_n C dX9_toldOfWalk_17 rfl rfl ?_
      refine j_get C dX9_toldOfWalk_18 jf_RX9_18 (wO cX0) rfl ?_
      refine j_get C dX9_toldOfWalk_21 jf_RX9_124 (wO (cWk (Or.inl rfl))) rfl ?_
      refine j_goto (tgt := 34) C dX9_toldOfWalk_24 (by decide) ?_
      refine hret _ _ _ _ dX9_toldOfWalk_34 rfl ?_
      refine ⟨?_, rfl⟩; simp [*]
  · skip
    refine j_aload_n C dX9_toldOfWalk_4 rfl rfl ?_
    refine j_get C dX9_toldOfWalk_5 jf_RX9_18 (wO cX0) rfl ?_
    refine j_get C dX9_toldOfWalk_8 jf_RX9_121 (wO (cWk (Or.inl rfl))) rfl ?_
    refine hret _ _ _ _ dX9_toldOfWalk_11 rfl ?_
    refine ⟨?_, rfl⟩; simp [*]
set_option maxHeartbeats 4000000 in
set_option maxRecDepth 100000 in
theorem c_X9_setWalk (l : Launch) (g : jG) (a : Nat → Nat) (M : (Nat → Nat → Int32)) (w : Int32) (v : Int32)  : Ci l g yX9_setWalk cX9_setWalk 4 .int 1 21 0 0 (cW g a) [.ref (a 0), .int w, .int v] M (fun r z => r = (if w = 0 then M 2 0 else if w = 1 then M 2 1 else M 2 2) ∧ z = (if w = 0 then uM M 2 0 v else if w = 1 then uM M 2 1 v else uM M 2 2 v)) := by
  refine mk_i (by decide +kernel) rfl (fun KK hKl hKg C hin hret => ?_)
  subst hKl; subst hKg
  refine j_lv (lv' := [(0, _), (1, _), (2, _)]) rfl ?_
  refine j_aload_n C dX9_setWalk_0 rfl rfl ?_
  refine j_iload_n C dX9_setWalk_1 rfl rfl ?_
  refine j_calliv C (c_X9_toldOfWalk _ _ _ _ _ ) dX9_setWalk_2 jm_RX9_118 ⟨_, _, _, _, wO cX0, rfl, rfl⟩ ⟨by decide, by decide, by decide, by decide⟩ rfl (Nat.le_of_ble_eq_true rfl) (fun r z hz => ?_)
  obtain ⟨hr, hz⟩ := hz; have hr := hr.symm; have hz := hz.symm; subst hr; subst hz
  refine j_istore_n (lv' := [(3, _), (0, _), (1, _), (2, _)]) C dX9_setWalk_5 rfl (by decide) rfl ?_
  refine j_iload_n C dX9_setWalk_6 rfl rfl ?_
  refine j_if_ne (tgt := 21) C dX9_setWalk_7 (by decide) (fun c_1 => ?_) (fun c_1 => ?_)
  · skip
    refine j_iload_n C dX9_setWalk_21 rfl rfl ?_
    refine j_iconst (v := 1) C dX9_setWalk_22 rfl ?_
    refine j_icmp_ne (tgt := 37) C dX9_setWalk_23 (by decide) (fun c_2 => ?_) (fun c_2 => ?_)
    · skip
      refine j_aload_n C dX9_setWalk_37 rfl rfl ?_
      refine j_get C dX9_setWalk_38 jf_RX9_18 (wO cX0) rfl ?_
      refine j_iload_n C dX9_setWalk_41 rfl rfl ?_
      refine j_put C dX9_setWalk_42 jp_RX9_127 (wO (cWk (Or.inl rfl))) (Nat.le_of_ble_eq_true rfl) rfl rfl (sO (cWk (Or.inl rfl)) 2 _ rfl) ?_
      refine j_iload_n C dX9_setWalk_45 rfl rfl ?_
      refine hret _ _ _ _ dX9_setWalk_46 rfl ?_
      refine ⟨rfl, ?_⟩; simp [*]
    · skip
      refine j_aload_n C dX9_setWalk_26 rfl rfl ?_
      refine j_get C dX9_setWalk_27 jf_RX9_18 (wO cX0) rfl ?_
      refine j_iload_n C dX9_setWalk_30 rfl rfl ?_
      refine j_put C dX9_setWalk_31 jp_RX9_124 (wO (cWk (Or.inl rfl))) (Nat.le_of_ble_eq_true rfl) rfl rfl (sO (cWk (Or.inl rfl)) 1 _ rfl) ?_
      refine j_goto (tgt := 45) C dX9_setWalk_34 (by decide) ?_
      refine j_iload_n C dX9_setWalk_45 rfl rfl ?_
      refine hret _ _ _ _ dX9_setWalk_46 rfl ?_
      refine ⟨rfl, ?_⟩; simp [*]
  · skip
    refine j_aload_n C dX9_setWalk_10 rfl rfl ?_
    refine j_get C dX9_setWalk_11 jf_RX9_18 (wO cX0) rfl ?_
    refine j_iload_n C dX9_setWalk_14 rfl rfl ?_
    refine j_put C dX9_setWalk_15 jp_RX9_121 (wO (cWk (Or.inl rfl))) (Nat.le_of_ble_eq_true rfl) rfl rfl (sO (cWk (Or.inl rfl)) 0 _ rfl) ?_
    refine j_goto (tgt := 45) C dX9_setWalk_18 (by decide) ?_
    refine j_iload_n C dX9_setWalk_45 rfl rfl ?_
    refine hret _ _ _ _ dX9_setWalk_46 rfl ?_
    refine ⟨rfl, ?_⟩; simp [*]
set_option maxHeartbeats 4000000 in
set_option maxRecDepth 100000 in
theorem c_X9_toldOfGlove (l : Launch) (g : jG) (a : Nat → Nat) (M : (Nat → Nat → Int32)) (K : Nat) (hK : isGl K) (w : Int32)  : Ci l g yX9_toldOfGlove cX9_toldOfGlove 2 .int 1 20 0 0 (cW g a) [.ref (a K), .int w] M (fun r z => r = (if w = 3 then M K 1 else if w = 4 then M K 2 else if w = 5 then M K 3 else if w = 6 then M K 4 else if w = 7 then M K 0 else laS (M K)) ∧ z = M) := by
  refine mk_i (by decide +kernel) rfl (fun KK hKl hKg C hin hret => ?_)
  subst hKl; subst hKg
  refine j_lv (lv' := [(0, _), (1, _)]) rfl ?_
  refine j_iload_n C dX9_toldOfGlove_0 rfl rfl ?_
  by_cases s_1 : w = 3
  · refine j_tableIn (off := 35) (tgt := 36) C dX9_toldOfGlove_1 (by rw [s_1]; decide) (by rw [s_1]; decide) (by rw [s_1]; rfl) (by decide) ?_
    refine j_aload_n C dX9_toldOfGlove_36 rfl rfl ?_
    refine j_get C dX9_toldOfGlove_37 jf_RX9_134 (wO (cGl hK)) rfl ?_
    refine hret _ _ _ _ dX9_toldOfGlove_40 rfl ?_
    refine ⟨?_, rfl⟩; simp [*]
  by_cases s_2 : w = 4
  · refine j_tableIn (off := 40) (tgt := 41) C dX9_toldOfGlove_1 (by rw [s_2]; decide) (by rw [s_2]; decide) (by rw [s_2]; rfl) (by decide) ?_
    refine j_aload_n C dX9_toldOfGlove_41 rfl rfl ?_
    refine j_get C dX9_toldOfGlove_42 jf_RX9_137 (wO (cGl hK)) rfl ?_
    refine hret _ _ _ _ dX9_toldOfGlove_45 rfl ?_
    refine ⟨?_, rfl⟩; simp [*]
  by_cases s_3 : w = 5
  · refine j_tableIn (off := 45) (tgt := 46) C dX9_toldOfGlove_1 (by rw [s_3]; decide) (by rw [s_3]; decide) (by rw [s_3]; rfl) (by decide) ?_
    refine j_aload_n C dX9_toldOfGlove_46 rfl rfl ?_
    refine j_get C dX9_toldOfGlove_47 jf_RX9_140 (wO (cGl hK)) rfl ?_
    refine hret _ _ _ _ dX9_toldOfGlove_50 rfl ?_
    refine ⟨?_, rfl⟩; simp [*]
  by_cases s_4 : w = 6
  · refine j_tableIn (off := 50) (tgt := 51) C dX9_toldOfGlove_1 (by rw [s_4]; decide) (by rw [s_4]; decide) (by rw [s_4]; rfl) (by decide) ?_
    refine j_aload_n C dX9_toldOfGlove_51 rfl rfl ?_
    refine j_get C dX9_toldOfGlove_52 jf_RX9_143 (wO (cGl hK)) rfl ?_
    refine hret _ _ _ _ dX9_toldOfGlove_55 rfl ?_
    refine ⟨?_, rfl⟩; simp [*]
  by_cases s_5 : w = 7
  · refine j_tableIn (off := 55) (tgt := 56) C dX9_toldOfGlove_1 (by rw [s_5]; decide) (by rw [s_5]; decide) (by rw [s_5]; rfl) (by decide) ?_
    refine j_aload_n C dX9_toldOfGlove_56 rfl rfl ?_
    refine j_get C dX9_toldOfGlove_57 jf_RX9_161 (wO (cGl hK)) rfl ?_
    refine hret _ _ _ _ dX9_toldOfGlove_60 rfl ?_
    refine ⟨?_, rfl⟩; simp [*]
  have hsw : w.toInt < 3 ∨ 7 < w.toInt := by
    have q3 : ¬ w.toInt = 3 := lv_neT s_1 rfl
    have q4 : ¬ w.toInt = 4 := lv_neT s_2 rfl
    have q5 : ¬ w.toInt = 5 := lv_neT s_3 rfl
    have q6 : ¬ w.toInt = 6 := lv_neT s_4 rfl
    have q7 : ¬ w.toInt = 7 := lv_neT s_5 rfl
    omega
  refine j_tableOut (tgt := 61) C dX9_toldOfGlove_1 hsw (by decide) ?_
  refine j_aload_n C dX9_toldOfGlove_61 rfl rfl ?_
  refine j_calliv C (c_X1_lasts _ _ _ _ K hK ) dX9_toldOfGlove_62 jm_RX9_164 ⟨_, _, _, _, wO (cGl hK), rfl, rfl⟩ ⟨by decide, by decide, by decide, by decide⟩ rfl (Nat.le_of_ble_eq_true rfl) (fun r z hz => ?_)
  obtain ⟨hr, hz⟩ := hz; have hr := hr.symm; have hz := hz.symm; subst hr; subst hz
  refine hret _ _ _ _ dX9_toldOfGlove_65 rfl ?_
  refine ⟨?_, rfl⟩; simp [*]
set_option maxHeartbeats 4000000 in
set_option maxRecDepth 100000 in
theorem c_X9_setGlove (l : Launch) (g : jG) (a : Nat → Nat) (M : (Nat → Nat → Int32)) (K : Nat) (hK : isGl K) (w : Int32) (v : Int32)  : Ci l g yX9_setGlove cX9_setGlove 4 .int 2 41 0 0 (cW g a) [.ref (a K), .int w, .int v] M (fun r z => r = (if w = 3 then M K 1 else if w = 4 then M K 2 else if w = 5 then M K 3 else if w = 6 then M K 4 else if w = 7 then M K 0 else laS (M K)) ∧ z = (if w = 3 then uM M K 1 v else if w = 4 then uM M K 2 v else if w = 5 then uM M K 3 v else uM M K 4 v)) := by
  refine mk_i (by decide +kernel) rfl (fun KK hKl hKg C hin hret => ?_)
  subst hKl; subst hKg
  refine j_lv (lv' := [(0, _), (1, _), (2, _)]) rfl ?_
  refine j_aload_n C dX9_setGlove_0 rfl rfl ?_
  refine j_iload_n C dX9_setGlove_1 rfl rfl ?_
  refine j_callis C (c_X9_toldOfGlove _ _ _ _ K hK _ ) dX9_setGlove_2 jm_RX9_130 ⟨by decide, by decide, by decide, by decide⟩ rfl (Nat.le_of_ble_eq_true rfl) (fun r z hz => ?_)
  obtain ⟨hr, hz⟩ := hz; have hr := hr.symm; have hz := hz.symm; subst hr; subst hz
  refine j_istore_n (lv' := [(3, _), (0, _), (1, _), (2, _)]) C dX9_setGlove_5 rfl (by decide) rfl ?_
  refine j_iload_n C dX9_setGlove_6 rfl rfl ?_
  by_cases s_1 : w = 3
  · refine j_tableIn (off := 25) (tgt := 32) C dX9_setGlove_7 (by rw [s_1]; decide) (by rw [s_1]; decide) (by rw [s_1]; rfl) (by decide) ?_
    refine j_aload_n C dX9_setGlove_32 rfl rfl ?_
    refine j_iload_n C dX9_setGlove_33 rfl rfl ?_
    refine j_put C dX9_setGlove_34 jp_RX9_134 (wO (cGl hK)) (Nat.le_of_ble_eq_true rfl) rfl rfl (sO (cGl hK) 1 _ rfl) ?_
    refine j_goto (tgt := 61) C dX9_setGlove_37 (by decide) ?_
    refine j_iload_n C dX9_setGlove_61 rfl rfl ?_
    refine hret _ _ _ _ dX9_setGlove_62 rfl ?_
    refine ⟨rfl, ?_⟩; simp [*]
  by_cases s_2 : w = 4
  · refine j_tableIn (off := 33) (tgt := 40) C dX9_setGlove_7 (by rw [s_2]; decide) (by rw [s_2]; decide) (by rw [s_2]; rfl) (by decide) ?_
    refine j_aload_n C dX9_setGlove_40 rfl rfl ?_
    refine j_iload_n C dX9_setGlove_41 rfl rfl ?_
    refine j_put C dX9_setGlove_42 jp_RX9_137 (wO (cGl hK)) (Nat.le_of_ble_eq_true rfl) rfl rfl (sO (cGl hK) 2 _ rfl) ?_
    refine j_goto (tgt := 61) C dX9_setGlove_45 (by decide) ?_
    refine j_iload_n C dX9_setGlove_61 rfl rfl ?_
    refine hret _ _ _ _ dX9_setGlove_62 rfl ?_
    refine ⟨rfl, ?_⟩; simp [*]
  by_cases s_3 : w = 5
  · refine j_tableIn (off := 41) (tgt := 48) C dX9_setGlove_7 (by rw [s_3]; decide) (by rw [s_3]; decide) (by rw [s_3]; rfl) (by decide) ?_
    refine j_aload_n C dX9_setGlove_48 rfl rfl ?_
    refine j_iload_n C dX9_setGlove_49 rfl rfl ?_
    refine j_put C dX9_setGlove_50 jp_RX9_140 (wO (cGl hK)) (Nat.le_of_ble_eq_true rfl) rfl rfl (sO (cGl hK) 3 _ rfl) ?_
    refine j_goto (tgt := 61) C dX9_setGlove_53 (by decide) ?_
    refine j_iload_n C dX9_setGlove_61 rfl rfl ?_
    refine hret _ _ _ _ dX9_setGlove_62 rfl ?_
    refine ⟨rfl, ?_⟩; simp [*]
  have hsw : w.toInt < 3 ∨ 5 < w.toInt := by
    have q3 : ¬ w.toInt = 3 := lv_neT s_1 rfl
    have q4 : ¬ w.toInt = 4 := lv_neT s_2 rfl
    have q5 : ¬ w.toInt = 5 := lv_neT s_3 rfl
    omega
  refine j_tableOut (tgt := 56) C dX9_setGlove_7 hsw (by decide) ?_
  refine j_aload_n C dX9_setGlove_56 rfl rfl ?_
  refine j_iload_n C dX9_setGlove_57 rfl rfl ?_
  refine j_put C dX9_setGlove_58 jp_RX9_143 (wO (cGl hK)) (Nat.le_of_ble_eq_true rfl) rfl rfl (sO (cGl hK) 4 _ rfl) ?_
  refine j_iload_n C dX9_setGlove_61 rfl rfl ?_
  refine hret _ _ _ _ dX9_setGlove_62 rfl ?_
  refine ⟨rfl, ?_⟩; simp [*]
set_option maxHeartbeats 4000000 in
set_option maxRecDepth 100000 in
theorem c_X9_set (l : Launch) (g : jG) (a : Nat → Nat) (M : (Nat → Nat → Int32)) (w : Int32) (o : Int32) (v : Int32) (n : Nat) (hn : M 0 1 = nI n) (hn6 : n ≤ 6) : Ci l g yX9_set cX9_set 5 .int 3 64 0 0 (cW g a) [.ref (a 0), .int w, .int o, .int v] M (fun r z => if seOk (M 0 1) w o v then (r = tdS (M 2) (M (28 + o.toNatClampNeg)) w ∧ z = if w ≤ 2 then uM M 2 w.toNatClampNeg v else uM M (28 + o.toNatClampNeg) (w.toNatClampNeg - 2) v) else r = -2 ∧ z = M) := by
  refine mk_i (by decide +kernel) rfl (fun KK hKl hKg C hin hret => ?_)
  subst hKl; subst hKg
  refine j_lv (lv' := [(0, _), (1, _), (2, _), (3, _)]) rfl ?_
  refine j_iload_n C dX9_set_0 rfl rfl ?_
  refine j_if_lt (tgt := 12) C dX9_set_1 (by decide) (fun c_1 => ?_) (fun c_1 => ?_)
  · skip
    refine j_bipush (v := -2) C dX9_set_12 rfl ?_
    refine hret _ _ _ _ dX9_set_14 rfl ?_
    rw [if_neg (fun h => by have := h.1; simp only [Int32.lt_iff_toInt_lt, Int32.le_iff_toInt_le, ← Int32.toInt_inj, Int32.reduceToInt] at *; omega)]; exact ⟨rfl, rfl⟩
  · skip
    refine j_iload_n C dX9_set_4 rfl rfl ?_
    refine j_iload_n C dX9_set_5 rfl rfl ?_
    refine j_callis C (c_X9_countOf _ _ _ _ _ ) dX9_set_6 jm_RX9_102 ⟨by decide, by decide, by decide, by decide⟩ rfl (Nat.le_of_ble_eq_true rfl) (fun r z hz => ?_)
    obtain ⟨hr, hz⟩ := hz; have hr := hr.symm; have hz := hz.symm; subst hr; subst hz
    refine j_icmp_lt (tgt := 15) C dX9_set_9 (by decide) (fun c_9 => ?_) (fun c_9 => ?_)
    · skip
      refine j_iload_n C dX9_set_15 rfl rfl ?_
      refine j_iconst (v := 2) C dX9_set_16 rfl ?_
      refine j_icmp_gt (tgt := 27) C dX9_set_17 (by decide) (fun c_17 => ?_) (fun c_17 => ?_)
      · skip
        refine j_aload_n C dX9_set_27 rfl rfl ?_
        refine j_iload_n C dX9_set_28 rfl rfl ?_
        refine j_callqv C (c_X9_gloveAt _ _ _ _ _ n hn hn6) dX9_set_29 jm_RX9_110 ⟨_, _, _, _, wO cX0, rfl, rfl⟩ ⟨by decide, by decide, by decide, by decide⟩ rfl (Nat.le_of_ble_eq_true rfl) (fun r z hz => ?_)
        obtain ⟨hb, hz⟩ := hz; have hz := hz.symm; subst hz
        rcases hb with ⟨i_29, hi_29, he_29, rfl⟩ | ⟨hno_29, rfl⟩
        · skip
          subst he_29
          refine j_astore (lv' := [(4, _), (0, _), (1, _), (2, _), (3, _)]) C dX9_set_32 (by decide) rfl ?_
          refine j_aload C dX9_set_34 rfl ?_
          refine j_ifnonnull (tgt := 44) C dX9_set_36 (by decide) ?_
          refine j_aload C dX9_set_44 rfl ?_
          refine j_iload_n C dX9_set_46 rfl rfl ?_
          refine j_iload_n C dX9_set_47 rfl rfl ?_
          refine j_callis C (c_X9_setGlove _ _ _ _ (28 + i_29) (isGl_h (Nat.lt_of_lt_of_le hi_29 hn6)) _ _ ) dX9_set_48 jm_RX9_114 ⟨by decide, by decide, by decide, by decide⟩ rfl (Nat.le_of_ble_eq_true rfl) (fun r z hz => ?_)
          obtain ⟨hr, hz⟩ := hz; have hr := hr.symm; have hz := hz.symm; subst hr; subst hz
          refine hret _ _ _ _ dX9_set_51 rfl ?_
          have hw2 : ¬ w ≤ 2 := by simp only [Int32.lt_iff_toInt_lt, Int32.le_iff_toInt_le, ← Int32.toInt_inj, Int32.reduceToInt] at c_17 ⊢; omega
          first
            | (rw [if_neg (fun h => h.2.elim hw2 hno_29)]; exact ⟨rfl, rfl⟩)
            | (have hv : 0 ≤ v ∧ v < cnS w := by simp only [Int32.lt_iff_toInt_lt, Int32.le_iff_toInt_le, ← Int32.toInt_inj, Int32.reduceToInt] at c_1 c_9 ⊢; omega
               have hw := cn_0 (w := w) (by simp only [Int32.lt_iff_toInt_lt, Int32.le_iff_toInt_le, ← Int32.toInt_inj, Int32.reduceToInt] at hv ⊢; omega)
               rw [if_pos ⟨hv, Or.inr ⟨(nI_0le hi_29 (by omega)).1, by rw [hn]; exact (nI_0le hi_29 (by omega)).2⟩⟩, if_neg hw2, nI_clamp (show i_29 < 2147483648 by omega)]
               obtain ⟨j, hj, rfl⟩ := in_of (B := 7) (q := w) (m := 7) ⟨hw.1, by simp only [Int32.lt_iff_toInt_lt, Int32.le_iff_toInt_le, ← Int32.toInt_inj, Int32.reduceToInt] at hw ⊢; omega⟩ rfl
               have h3 : j = 3 ∨ j = 4 ∨ j = 5 ∨ j = 6 := by
                 have e : (nI j).toInt = j := nI_toInt (by omega)
                 simp only [Int32.lt_iff_toInt_lt, Int32.le_iff_toInt_le, ← Int32.toInt_inj, Int32.reduceToInt, e] at hw2; omega
               rcases h3 with rfl | rfl | rfl | rfl <;> exact ⟨rfl, rfl⟩)
        · skip
          refine j_astoreN (lv' := [(4, _), (0, _), (1, _), (2, _), (3, _)]) C dX9_set_32 (by decide) rfl ?_
          refine j_aloadN C dX9_set_34 rfl ?_
          refine j_ifnonnullN C dX9_set_36 ?_
          refine j_bipush (v := -2) C dX9_set_39 rfl ?_
          refine j_goto (tgt := 51) C dX9_set_41 (by decide) ?_
          refine hret _ _ _ _ dX9_set_51 rfl ?_
          have hw2 : ¬ w ≤ 2 := by simp only [Int32.lt_iff_toInt_lt, Int32.le_iff_toInt_le, ← Int32.toInt_inj, Int32.reduceToInt] at c_17 ⊢; omega
          first
            | (rw [if_neg (fun h => h.2.elim hw2 hno_29)]; exact ⟨rfl, rfl⟩)
            | (have hv : 0 ≤ v ∧ v < cnS w := by simp only [Int32.lt_iff_toInt_lt, Int32.le_iff_toInt_le, ← Int32.toInt_inj, Int32.reduceToInt] at c_1 c_9 ⊢; omega
               have hw := cn_0 (w := w) (by simp only [Int32.lt_iff_toInt_lt, Int32.le_iff_toInt_le, ← Int32.toInt_inj, Int32.reduceToInt] at hv ⊢; omega)
               rw [if_pos ⟨hv, Or.inr ⟨(nI_0le hi_29 (by omega)).1, by rw [hn]; exact (nI_0le hi_29 (by omega)).2⟩⟩, if_neg hw2, nI_clamp (show i_29 < 2147483648 by omega)]
               obtain ⟨j, hj, rfl⟩ := in_of (B := 7) (q := w) (m := 7) ⟨hw.1, by simp only [Int32.lt_iff_toInt_lt, Int32.le_iff_toInt_le, ← Int32.toInt_inj, Int32.reduceToInt] at hw ⊢; omega⟩ rfl
               have h3 : j = 3 ∨ j = 4 ∨ j = 5 ∨ j = 6 := by
                 have e : (nI j).toInt = j := nI_toInt (by omega)
                 simp only [Int32.lt_iff_toInt_lt, Int32.le_iff_toInt_le, ← Int32.toInt_inj, Int32.reduceToInt, e] at hw2; omega
               rcases h3 with rfl | rfl | rfl | rfl <;> exact ⟨rfl, rfl⟩)
      · skip
        refine j_aload_n C dX9_set_20 rfl rfl ?_
        refine j_iload_n C dX9_set_21 rfl rfl ?_
        refine j_iload_n C dX9_set_22 rfl rfl ?_
        refine j_calliv C (c_X9_setWalk _ _ _ _ _ _ ) dX9_set_23 jm_RX9_106 ⟨_, _, _, _, wO cX0, rfl, rfl⟩ ⟨by decide, by decide, by decide, by decide⟩ rfl (Nat.le_of_ble_eq_true rfl) (fun r z hz => ?_)
        obtain ⟨hr, hz⟩ := hz; have hr := hr.symm; have hz := hz.symm; subst hr; subst hz
        refine hret _ _ _ _ dX9_set_26 rfl ?_
        have hv : 0 ≤ v ∧ v < cnS w := by simp only [Int32.lt_iff_toInt_lt, Int32.le_iff_toInt_le, ← Int32.toInt_inj, Int32.reduceToInt] at c_1 c_9 ⊢; omega
        have hw := cn_0 (w := w) (by simp only [Int32.lt_iff_toInt_lt, Int32.le_iff_toInt_le, ← Int32.toInt_inj, Int32.reduceToInt] at hv ⊢; omega)
        have hw2 : w ≤ 2 := by simp only [Int32.lt_iff_toInt_lt, Int32.le_iff_toInt_le, ← Int32.toInt_inj, Int32.reduceToInt] at c_17 ⊢; omega
        rw [if_pos ⟨hv, Or.inl hw2⟩, if_pos hw2]
        obtain ⟨j, hj, rfl⟩ := in_of (B := 3) (q := w) (m := 3) ⟨hw.1, by simp only [Int32.lt_iff_toInt_lt, Int32.le_iff_toInt_le, ← Int32.toInt_inj, Int32.reduceToInt] at hw2 ⊢; omega⟩ rfl
        have h3 : j = 0 ∨ j = 1 ∨ j = 2 := by omega
        rcases h3 with rfl | rfl | rfl <;> exact ⟨rfl, rfl⟩
    · skip
      refine j_bipush (v := -2) C dX9_set_12 rfl ?_
      refine hret _ _ _ _ dX9_set_14 rfl ?_
      rw [if_neg (fun h => by have := h.1; simp only [Int32.lt_iff_toInt_lt, Int32.le_iff_toInt_le, ← Int32.toInt_inj, Int32.reduceToInt] at *; omega)]; exact ⟨rfl, rfl⟩
set_option maxHeartbeats 4000000 in
set_option maxRecDepth 100000 in
theorem c_X9_told (l : Launch) (g : jG) (a : Nat → Nat) (M : (Nat → Nat → Int32)) (o : Int32) (w : Int32) (n : Nat) (hn : M 0 1 = nI n) (hn6 : n ≤ 6) : Ci l g yX9_told cX9_told 4 .int 2 41 0 0 (cW g a) [.ref (a 0), .int o, .int w] M (fun r z => r = (if (0 ≤ w ∧ w ≤ 8) ∧ (w ≤ 2 ∨ (0 ≤ o ∧ o < M 0 1)) then tdS (M 2) (M (28 + o.toNatClampNeg)) w else -2) ∧ z = M) := by
  refine mk_i (by decide +kernel) rfl (fun KK hKl hKg C hin hret => ?_)
  subst hKl; subst hKg
  refine j_lv (lv' := [(0, _), (1, _), (2, _)]) rfl ?_
  refine j_iload_n C dX9_told_0 rfl rfl ?_
  refine j_if_lt (tgt := 10) C dX9_told_1 (by decide) (fun c_1 => ?_) (fun c_1 => ?_)
  · skip
    refine j_bipush (v := -2) C dX9_told_10 rfl ?_
    refine hret _ _ _ _ dX9_told_12 rfl ?_
    exact ⟨(if_neg (fun h => by have := h.1; simp only [Int32.lt_iff_toInt_lt, Int32.le_iff_toInt_le, ← Int32.toInt_inj, Int32.reduceToInt] at *; omega)).symm, rfl⟩
  · skip
    refine j_iload_n C dX9_told_4 rfl rfl ?_
    refine j_bipush (v := 8) C dX9_told_5 rfl ?_
    refine j_icmp_le (tgt := 13) C dX9_told_7 (by decide) (fun c_7 => ?_) (fun c_7 => ?_)
    · skip
      refine j_iload_n C dX9_told_13 rfl rfl ?_
      refine j_iconst (v := 2) C dX9_told_14 rfl ?_
      refine j_icmp_gt (tgt := 24) C dX9_told_15 (by decide) (fun c_15 => ?_) (fun c_15 => ?_)
      · skip
        refine j_aload_n C dX9_told_24 rfl rfl ?_
        refine j_iload_n C dX9_told_25 rfl rfl ?_
        refine j_callqv C (c_X9_gloveAt _ _ _ _ _ n hn hn6) dX9_told_26 jm_RX9_110 ⟨_, _, _, _, wO cX0, rfl, rfl⟩ ⟨by decide, by decide, by decide, by decide⟩ rfl (Nat.le_of_ble_eq_true rfl) (fun r z hz => ?_)
        obtain ⟨hb, hz⟩ := hz; have hz := hz.symm; subst hz
        rcases hb with ⟨i_26, hi_26, he_26, rfl⟩ | ⟨hno_26, rfl⟩
        · skip
          subst he_26
          refine j_astore_n (lv' := [(3, _), (0, _), (1, _), (2, _)]) C dX9_told_29 rfl (by decide) rfl ?_
          refine j_aload_n C dX9_told_30 rfl rfl ?_
          refine j_ifnonnull (tgt := 39) C dX9_told_31 (by decide) ?_
          refine j_aload_n C dX9_told_39 rfl rfl ?_
          refine j_iload_n C dX9_told_40 rfl rfl ?_
          refine j_callis C (c_X9_toldOfGlove _ _ _ _ (28 + i_26) (isGl_h (Nat.lt_of_lt_of_le hi_26 hn6)) _ ) dX9_told_41 jm_RX9_130 ⟨by decide, by decide, by decide, by decide⟩ rfl (Nat.le_of_ble_eq_true rfl) (fun r z hz => ?_)
          obtain ⟨hr, hz⟩ := hz; have hr := hr.symm; have hz := hz.symm; subst hr; subst hz
          refine hret _ _ _ _ dX9_told_44 rfl ?_
          have hw2 : ¬ w ≤ 2 := by simp only [Int32.lt_iff_toInt_lt, Int32.le_iff_toInt_le, ← Int32.toInt_inj, Int32.reduceToInt] at c_15 ⊢; omega
          first
            | exact ⟨(if_neg (fun h => h.2.elim hw2 hno_26)).symm, rfl⟩
            | (have hw8 : 0 ≤ w ∧ w ≤ 8 := by simp only [Int32.lt_iff_toInt_lt, Int32.le_iff_toInt_le, ← Int32.toInt_inj, Int32.reduceToInt] at c_1 c_7 ⊢; omega
               refine ok_pos ⟨hw8, Or.inr ⟨(nI_0le hi_26 (by omega)).1, by rw [hn]; exact (nI_0le hi_26 (by omega)).2⟩⟩ ⟨?_, rfl⟩
               rw [nI_clamp (show i_26 < 2147483648 by omega)]
               obtain ⟨j, hj, rfl⟩ := in_of (B := 9) (q := w) (m := 9) (by simp only [Int32.lt_iff_toInt_lt, Int32.le_iff_toInt_le, ← Int32.toInt_inj, Int32.reduceToInt] at hw8 ⊢; omega) rfl
               have h3 : j = 3 ∨ j = 4 ∨ j = 5 ∨ j = 6 ∨ j = 7 ∨ j = 8 := by
                 have e : (nI j).toInt = j := nI_toInt (by omega)
                 simp only [Int32.lt_iff_toInt_lt, Int32.le_iff_toInt_le, ← Int32.toInt_inj, Int32.reduceToInt, e] at hw2; omega
               rcases h3 with rfl | rfl | rfl | rfl | rfl | rfl <;> rfl)
        · skip
          refine j_astore_nN (lv' := [(3, _), (0, _), (1, _), (2, _)]) C dX9_told_29 rfl (by decide) rfl ?_
          refine j_aload_nN C dX9_told_30 rfl rfl ?_
          refine j_ifnonnullN C dX9_told_31 ?_
          refine j_bipush (v := -2) C dX9_told_34 rfl ?_
          refine j_goto (tgt := 44) C dX9_told_36 (by decide) ?_
          refine hret _ _ _ _ dX9_told_44 rfl ?_
          have hw2 : ¬ w ≤ 2 := by simp only [Int32.lt_iff_toInt_lt, Int32.le_iff_toInt_le, ← Int32.toInt_inj, Int32.reduceToInt] at c_15 ⊢; omega
          first
            | exact ⟨(if_neg (fun h => h.2.elim hw2 hno_26)).symm, rfl⟩
            | (have hw8 : 0 ≤ w ∧ w ≤ 8 := by simp only [Int32.lt_iff_toInt_lt, Int32.le_iff_toInt_le, ← Int32.toInt_inj, Int32.reduceToInt] at c_1 c_7 ⊢; omega
               refine ok_pos ⟨hw8, Or.inr ⟨(nI_0le hi_26 (by omega)).1, by rw [hn]; exact (nI_0le hi_26 (by omega)).2⟩⟩ ⟨?_, rfl⟩
               rw [nI_clamp (show i_26 < 2147483648 by omega)]
               obtain ⟨j, hj, rfl⟩ := in_of (B := 9) (q := w) (m := 9) (by simp only [Int32.lt_iff_toInt_lt, Int32.le_iff_toInt_le, ← Int32.toInt_inj, Int32.reduceToInt] at hw8 ⊢; omega) rfl
               have h3 : j = 3 ∨ j = 4 ∨ j = 5 ∨ j = 6 ∨ j = 7 ∨ j = 8 := by
                 have e : (nI j).toInt = j := nI_toInt (by omega)
                 simp only [Int32.lt_iff_toInt_lt, Int32.le_iff_toInt_le, ← Int32.toInt_inj, Int32.reduceToInt, e] at hw2; omega
               rcases h3 with rfl | rfl | rfl | rfl | rfl | rfl <;> rfl)
      · skip
        refine j_aload_n C dX9_told_18 rfl rfl ?_
        refine j_iload_n C dX9_told_19 rfl rfl ?_
        refine j_calliv C (c_X9_toldOfWalk _ _ _ _ _ ) dX9_told_20 jm_RX9_118 ⟨_, _, _, _, wO cX0, rfl, rfl⟩ ⟨by decide, by decide, by decide, by decide⟩ rfl (Nat.le_of_ble_eq_true rfl) (fun r z hz => ?_)
        obtain ⟨hr, hz⟩ := hz; have hr := hr.symm; have hz := hz.symm; subst hr; subst hz
        refine hret _ _ _ _ dX9_told_23 rfl ?_
        have hw2 : w ≤ 2 := by simp only [Int32.lt_iff_toInt_lt, Int32.le_iff_toInt_le, ← Int32.toInt_inj, Int32.reduceToInt] at c_15 ⊢; omega
        refine ok_pos ⟨by simp only [Int32.lt_iff_toInt_lt, Int32.le_iff_toInt_le, ← Int32.toInt_inj, Int32.reduceToInt] at c_1 hw2 ⊢; omega, Or.inl hw2⟩ ⟨?_, rfl⟩
        obtain ⟨j, hj, rfl⟩ := in_of (B := 3) (q := w) (m := 3) (by simp only [Int32.lt_iff_toInt_lt, Int32.le_iff_toInt_le, ← Int32.toInt_inj, Int32.reduceToInt] at c_1 hw2 ⊢; omega) rfl
        have h3 : j = 0 ∨ j = 1 ∨ j = 2 := by omega
        rcases h3 with rfl | rfl | rfl <;> rfl
    · skip
      refine j_bipush (v := -2) C dX9_told_10 rfl ?_
      refine hret _ _ _ _ dX9_told_12 rfl ?_
      exact ⟨(if_neg (fun h => by have := h.1; simp only [Int32.lt_iff_toInt_lt, Int32.le_iff_toInt_le, ← Int32.toInt_inj, Int32.reduceToInt] at *; omega)).symm, rfl⟩
set_option maxHeartbeats 4000000 in
set_option maxRecDepth 100000 in
theorem c_X9_isGlove (l : Launch) (g : jG) {S : Type} (wd : S → va_W) (x : S) (k : Int32) (m : Int32) (p : Int32)  : Ci l g yX9_isGlove cX9_isGlove 3 .boolean 1 21 0 0 wd [.int k, .int m, .int p] x (fun r z => ((r = 1 ∧ glOk k m p) ∨ (r = 0 ∧ ¬ glOk k m p)) ∧ z = x) := by
  refine mk_i (by decide +kernel) rfl (fun KK hKl hKg C hin hret => ?_)
  subst hKl; subst hKg
  refine j_lv (lv' := [(0, _), (1, _), (2, _)]) rfl ?_
  refine j_iload_n C dX9_isGlove_0 rfl rfl ?_
  refine j_bipush (v := 6) C dX9_isGlove_1 rfl ?_
  refine j_callis C (c_X9_isIn _ _ _ _ _ _ ) dX9_isGlove_3 jm_RX9_154 ⟨by decide, by decide, by decide, by decide⟩ rfl (Nat.le_of_ble_eq_true rfl) (fun r z hz => ?_)
  obtain ⟨hb, hz⟩ := hz; have hz := hz.symm; subst hz
  rcases hb with ⟨rfl, b_3⟩ | ⟨rfl, b_3⟩
  · skip
    refine j_if_eq (tgt := 31) C dX9_isGlove_6 (by decide) (fun c => absurd c (by decide)) (fun _ => ?_)
    refine j_iload_n C dX9_isGlove_9 rfl rfl ?_
    refine j_bipush (v := 10) C dX9_isGlove_10 rfl ?_
    refine j_callis C (c_X9_isIn _ _ _ _ _ _ ) dX9_isGlove_12 jm_RX9_154 ⟨by decide, by decide, by decide, by decide⟩ rfl (Nat.le_of_ble_eq_true rfl) (fun r z hz => ?_)
    obtain ⟨hb, hz⟩ := hz; have hz := hz.symm; subst hz
    rcases hb with ⟨rfl, b_12⟩ | ⟨rfl, b_12⟩
    · skip
      refine j_if_eq (tgt := 31) C dX9_isGlove_15 (by decide) (fun c => absurd c (by decide)) (fun _ => ?_)
      refine j_iload_n C dX9_isGlove_18 rfl rfl ?_
      refine j_bipush (v := 20) C dX9_isGlove_19 rfl ?_
      refine j_callis C (c_X9_isIn _ _ _ _ _ _ ) dX9_isGlove_21 jm_RX9_154 ⟨by decide, by decide, by decide, by decide⟩ rfl (Nat.le_of_ble_eq_true rfl) (fun r z hz => ?_)
      obtain ⟨hb, hz⟩ := hz; have hz := hz.symm; subst hz
      rcases hb with ⟨rfl, b_21⟩ | ⟨rfl, b_21⟩
      · skip
        refine j_if_eq (tgt := 31) C dX9_isGlove_24 (by decide) (fun c => absurd c (by decide)) (fun _ => ?_)
        refine j_iconst (v := 1) C dX9_isGlove_27 rfl ?_
        refine j_goto (tgt := 32) C dX9_isGlove_28 (by decide) ?_
        refine hret _ _ _ _ dX9_isGlove_32 rfl ?_
        exact ⟨Or.inl ⟨rfl, b_3, b_12, b_21⟩, rfl⟩
      · skip
        refine j_if_eq (tgt := 31) C dX9_isGlove_24 (by decide) (fun _ => ?_) (fun c => absurd (by decide) c)
        refine j_iconst (v := 0) C dX9_isGlove_31 rfl ?_
        refine hret _ _ _ _ dX9_isGlove_32 rfl ?_
        first | exact ⟨Or.inr ⟨rfl, fun h => b_3 h.1⟩, rfl⟩ | exact ⟨Or.inr ⟨rfl, fun h => b_12 h.2.1⟩, rfl⟩ | exact ⟨Or.inr ⟨rfl, fun h => b_21 h.2.2⟩, rfl⟩
    · skip
      refine j_if_eq (tgt := 31) C dX9_isGlove_15 (by decide) (fun _ => ?_) (fun c => absurd (by decide) c)
      refine j_iconst (v := 0) C dX9_isGlove_31 rfl ?_
      refine hret _ _ _ _ dX9_isGlove_32 rfl ?_
      first | exact ⟨Or.inr ⟨rfl, fun h => b_3 h.1⟩, rfl⟩ | exact ⟨Or.inr ⟨rfl, fun h => b_12 h.2.1⟩, rfl⟩ | exact ⟨Or.inr ⟨rfl, fun h => b_21 h.2.2⟩, rfl⟩
  · skip
    refine j_if_eq (tgt := 31) C dX9_isGlove_6 (by decide) (fun _ => ?_) (fun c => absurd (by decide) c)
    refine j_iconst (v := 0) C dX9_isGlove_31 rfl ?_
    refine hret _ _ _ _ dX9_isGlove_32 rfl ?_
    first | exact ⟨Or.inr ⟨rfl, fun h => b_3 h.1⟩, rfl⟩ | exact ⟨Or.inr ⟨rfl, fun h => b_12 h.2.1⟩, rfl⟩ | exact ⟨Or.inr ⟨rfl, fun h => b_21 h.2.2⟩, rfl⟩
set_option maxHeartbeats 4000000 in
set_option maxRecDepth 100000 in
theorem c_X9_hangUp (l : Launch) (g : jG) (a : Nat → Nat) (M : (Nat → Nat → Int32)) (k : Int32) (m : Int32) (p : Int32) (n : Nat) (hn : M 0 1 = nI n) (hn6 : n ≤ 6) : Ci l g yX9_hangUp cX9_hangUp 4 .boolean 1 23 0 0 (cW g a) [.ref (a 0), .int k, .int m, .int p] M (fun r z => (r = 1 ∧ n < 6 ∧ z = hgX M n k m p) ∨ (r = 0 ∧ ¬ n < 6 ∧ z = M)) := by
  refine mk_i (by decide +kernel) rfl (fun KK hKl hKg C hin hret => ?_)
  subst hKl; subst hKg
  refine j_lv (lv' := [(0, _), (1, _), (2, _), (3, _)]) rfl ?_
  have e_n : (M 0 1).toInt = n := by rw [hn]; exact nI_toInt (by omega)
  refine j_aload_n C dX9_hangUp_0 rfl rfl ?_
  refine j_get C dX9_hangUp_1 jf_RX9_151 (wO cX0) rfl ?_
  refine j_if_lt (tgt := 19) C dX9_hangUp_4 (by decide) (fun c_1 => ?_) (fun c_1 => ?_)
  · skip
    exact absurd c_1 (by rw [hn]; exact nI_pos (by omega))
  · skip
    refine j_aload_n C dX9_hangUp_7 rfl rfl ?_
    refine j_get C dX9_hangUp_8 jf_RX9_151 (wO cX0) rfl ?_
    refine j_aload_n C dX9_hangUp_11 rfl rfl ?_
    refine j_get C dX9_hangUp_12 jf_RX9_11 (wO cX0) rfl ?_
    refine j_alen (v := 6) C dX9_hangUp_15 (wR cR1) gty_2 rfl ?_
    refine j_icmp_lt (tgt := 21) C dX9_hangUp_16 (by decide) (fun c_2 => ?_) (fun c_2 => ?_)
    · skip
      refine j_aload_n C dX9_hangUp_21 rfl rfl ?_
      refine j_get C dX9_hangUp_22 jf_RX9_11 (wO cX0) rfl ?_
      refine j_aload_n C dX9_hangUp_25 rfl rfl ?_
      refine j_get C dX9_hangUp_26 jf_RX9_151 (wO cX0) rfl ?_
      refine j_aald C (n) dX9_hangUp_29 (wR cR1) gty_2 (hn) (by simp only [Int32.lt_iff_toInt_lt, Int32.le_iff_toInt_le, ← Int32.toInt_inj, Int32.reduceToInt, e_n] at c_2; omega) (by decide) ?_
      have hlt : n < 6 := by simp only [Int32.lt_iff_toInt_lt, Int32.le_iff_toInt_le, ← Int32.toInt_inj, Int32.reduceToInt, e_n] at c_2; omega
      refine j_iload_n C dX9_hangUp_30 rfl rfl ?_
      refine j_iload_n C dX9_hangUp_31 rfl rfl ?_
      refine j_iload_n C dX9_hangUp_32 rfl rfl ?_
      refine j_callvv C (c_X1_come _ _ _ _ (28 + n) (isGl_h (by simp only [Int32.lt_iff_toInt_lt, Int32.le_iff_toInt_le, ← Int32.toInt_inj, Int32.reduceToInt, e_n] at c_2; omega)) _ _ _ ) dX9_hangUp_33 jm_RX9_158 ⟨_, _, _, _, wO (cGl (isGl_h (by simp only [Int32.lt_iff_toInt_lt, Int32.le_iff_toInt_le, ← Int32.toInt_inj, Int32.reduceToInt, e_n] at c_2; omega))), rfl, rfl⟩ ⟨by decide, by decide, by decide, by decide⟩ rfl (Nat.le_of_ble_eq_true rfl) (fun z_33 hz_33 => ?_)
      have hz_33 := hz_33.symm; subst hz_33
      refine j_aload_n C dX9_hangUp_36 rfl rfl ?_
      refine j_dup C dX9_hangUp_37 rfl ?_
      refine j_get C dX9_hangUp_38 jf_RX9_151 (wO cX0) rfl ?_
      refine j_iconst (v := 1) C dX9_hangUp_41 rfl ?_
      refine j_iadd C dX9_hangUp_42 ?_
      refine j_put C dX9_hangUp_43 jp_RX9_151 (wO cX0) (Nat.le_of_ble_eq_true rfl) rfl rfl (sO cX0 1 _ rfl) ?_
      refine j_iconst (v := 1) C dX9_hangUp_46 rfl ?_
      refine hret _ _ _ _ dX9_hangUp_47 rfl ?_
      refine Or.inl ⟨rfl, hlt, ?_⟩
      have e : cmX M (28 + n) k m p 0 1 + 1 = nI (n + 1) := by unfold cmX; rw [uM_ne (k' := 0) (by omega), uM_ne (k' := 0) (by omega), uM_ne (k' := 0) (by omega), uM_ne (k' := 0) (by omega), uM_ne (k' := 0) (by omega), hn, nI_1]
      exact congrArg (uM (cmX M (28 + n) k m p) 0 1) e
    · skip
      refine j_iconst (v := 0) C dX9_hangUp_19 rfl ?_
      refine hret _ _ _ _ dX9_hangUp_20 rfl ?_
      exact Or.inr ⟨rfl, by simp only [Int32.lt_iff_toInt_lt, Int32.le_iff_toInt_le, ← Int32.toInt_inj, Int32.reduceToInt, e_n] at c_2; omega, rfl⟩
set_option maxHeartbeats 4000000 in
set_option maxRecDepth 100000 in
theorem c_X9_glove (l : Launch) (g : jG) (a : Nat → Nat) (M : (Nat → Nat → Int32)) (k : Int32) (m : Int32) (p : Int32) (n : Nat) (hn : M 0 1 = nI n) (hn6 : n ≤ 6) : Ci l g yX9_glove cX9_glove 4 .int 2 46 0 0 (cW g a) [.ref (a 0), .int k, .int m, .int p] M (fun r z => if glOk k m p then (if n < 6 then r = nI n ∧ z = hgX M n k m p else r = -4 ∧ z = M) else r = -2 ∧ z = M) := by
  refine mk_i (by decide +kernel) rfl (fun KK hKl hKg C hin hret => ?_)
  subst hKl; subst hKg
  refine j_lv (lv' := [(0, _), (1, _), (2, _), (3, _)]) rfl ?_
  refine j_iload_n C dX9_glove_0 rfl rfl ?_
  refine j_iload_n C dX9_glove_1 rfl rfl ?_
  refine j_iload_n C dX9_glove_2 rfl rfl ?_
  refine j_callis C (c_X9_isGlove _ _ _ _ _ _ _ ) dX9_glove_3 jm_RX9_144 ⟨by decide, by decide, by decide, by decide⟩ rfl (Nat.le_of_ble_eq_true rfl) (fun r z hz => ?_)
  obtain ⟨hb, hz⟩ := hz; have hz := hz.symm; subst hz
  rcases hb with ⟨rfl, b_3⟩ | ⟨rfl, b_3⟩
  · skip
    refine j_if_ne (tgt := 12) C dX9_glove_6 (by decide) (fun _ => ?_) (fun c => absurd c (by decide))
    refine j_aload_n C dX9_glove_12 rfl rfl ?_
    refine j_iload_n C dX9_glove_13 rfl rfl ?_
    refine j_iload_n C dX9_glove_14 rfl rfl ?_
    refine j_iload_n C dX9_glove_15 rfl rfl ?_
    refine j_calliv C (c_X9_hangUp _ _ _ _ _ _ _ n hn hn6) dX9_glove_16 jm_RX9_148 ⟨_, _, _, _, wO cX0, rfl, rfl⟩ ⟨by decide, by decide, by decide, by decide⟩ rfl (Nat.le_of_ble_eq_true rfl) (fun r z hz => ?_)
    rcases hz with ⟨rfl, hr_16, hz⟩ | ⟨rfl, hr_16, hz⟩
    · have hz := hz.symm; subst hz
      refine j_if_eq (tgt := 31) C dX9_glove_19 (by decide) (fun c => absurd c (by decide)) (fun _ => ?_)
      refine j_aload_n C dX9_glove_22 rfl rfl ?_
      refine j_get C dX9_glove_23 jf_RX9_151 (wO cX0) rfl ?_
      refine j_iconst (v := 1) C dX9_glove_26 rfl ?_
      refine j_isub C dX9_glove_27 ?_
      refine j_goto (tgt := 33) C dX9_glove_28 (by decide) ?_
      refine hret _ _ _ _ dX9_glove_33 rfl ?_
      first
        | (rw [if_neg b_3]; exact ⟨rfl, rfl⟩)
        | (rw [if_pos b_3, if_neg hr_16]; exact ⟨rfl, rfl⟩)
        | (rw [if_pos b_3, if_pos hr_16]; exact ⟨by rw [hgX_0, nI_pred], rfl⟩)
    · have hz := hz.symm; subst hz
      refine j_if_eq (tgt := 31) C dX9_glove_19 (by decide) (fun _ => ?_) (fun c => absurd (by decide) c)
      refine j_bipush (v := -4) C dX9_glove_31 rfl ?_
      refine hret _ _ _ _ dX9_glove_33 rfl ?_
      first
        | (rw [if_neg b_3]; exact ⟨rfl, rfl⟩)
        | (rw [if_pos b_3, if_neg hr_16]; exact ⟨rfl, rfl⟩)
        | (rw [if_pos b_3, if_pos hr_16]; exact ⟨by rw [hgX_0, nI_pred], rfl⟩)
  · skip
    refine j_if_ne (tgt := 12) C dX9_glove_6 (by decide) (fun c => absurd (by decide) c) (fun _ => ?_)
    refine j_bipush (v := -2) C dX9_glove_9 rfl ?_
    refine hret _ _ _ _ dX9_glove_11 rfl ?_
    first
      | (rw [if_neg b_3]; exact ⟨rfl, rfl⟩)
      | (rw [if_pos b_3, if_neg hr_16]; exact ⟨rfl, rfl⟩)
      | (rw [if_pos b_3, if_pos hr_16]; exact ⟨by rw [hgX_0, nI_pred], rfl⟩)
set_option maxHeartbeats 4000000 in
set_option maxRecDepth 100000 in
theorem c_X9_force (l : Launch) (g : jG) (a : Nat → Nat) (M : (Nat → Nat → Int32)) (v : Int32)  : Ci l g yX9_force cX9_force 3 .int 1 21 0 0 (cW g a) [.ref (a 0), .int v] M (fun r z => if 0 ≤ v ∧ v < M 0 4 then r = M 0 5 ∧ z = uM M 0 5 v else r = -2 ∧ z = M) := by
  refine mk_i (by decide +kernel) rfl (fun KK hKl hKg C hin hret => ?_)
  subst hKl; subst hKg
  refine j_lv (lv' := [(0, _), (1, _)]) rfl ?_
  refine j_iload_n C dX9_force_0 rfl rfl ?_
  refine j_aload_n C dX9_force_1 rfl rfl ?_
  refine j_get C dX9_force_2 jf_RX9_98 (wO cX0) rfl ?_
  refine j_callis C (c_X9_isIn _ _ _ _ _ _ ) dX9_force_5 jm_RX9_154 ⟨by decide, by decide, by decide, by decide⟩ rfl (Nat.le_of_ble_eq_true rfl) (fun r z hz => ?_)
  obtain ⟨hb, hz⟩ := hz; have hz := hz.symm; subst hz
  rcases hb with ⟨rfl, b_5⟩ | ⟨rfl, b_5⟩
  · skip
    refine j_if_ne (tgt := 14) C dX9_force_8 (by decide) (fun _ => ?_) (fun c => absurd c (by decide))
    refine j_aload_n C dX9_force_14 rfl rfl ?_
    refine j_get C dX9_force_15 jf_RX9_170 (wO cX0) rfl ?_
    refine j_istore_n (lv' := [(2, _), (0, _), (1, _)]) C dX9_force_18 rfl (by decide) rfl ?_
    refine j_aload_n C dX9_force_19 rfl rfl ?_
    refine j_iload_n C dX9_force_20 rfl rfl ?_
    refine j_put C dX9_force_21 jp_RX9_170 (wO cX0) (Nat.le_of_ble_eq_true rfl) rfl rfl (sO cX0 5 _ rfl) ?_
    refine j_iload_n C dX9_force_24 rfl rfl ?_
    refine hret _ _ _ _ dX9_force_25 rfl ?_
    first | (rw [if_neg b_5]; exact ⟨rfl, rfl⟩) | (rw [if_pos b_5]; exact ⟨rfl, rfl⟩)
  · skip
    refine j_if_ne (tgt := 14) C dX9_force_8 (by decide) (fun c => absurd (by decide) c) (fun _ => ?_)
    refine j_bipush (v := -2) C dX9_force_11 rfl ?_
    refine hret _ _ _ _ dX9_force_13 rfl ?_
    first | (rw [if_neg b_5]; exact ⟨rfl, rfl⟩) | (rw [if_pos b_5]; exact ⟨rfl, rfl⟩)
set_option maxHeartbeats 4000000 in
set_option maxRecDepth 100000 in
theorem c_X6_add (l : Launch) (g : jG) (a : Nat → Nat) (M : (Nat → Nat → Int32)) (v : Int32) (s : Nat) (hs : M 5 1 = nI s) (hs2 : s ≤ 160) : Ci l g yX6_add cX6_add 2 .boolean 0 0 0 0 (cW g a) [.ref (a 5), .int v] M (fun r z => (r = 1 ∧ s < 160 ∧ z = uM (uM M 6 s v) 5 1 (nI (s + 1))) ∨ (r = 0 ∧ ¬ s < 160 ∧ z = M)) := by
  refine mk_i (by decide +kernel) rfl (fun KK hKl hKg C hin hret => ?_)
  subst hKl; subst hKg
  refine j_lv (lv' := [(0, _), (1, _)]) rfl ?_
  have e_s : (M 5 1).toInt = s := by rw [hs]; exact nI_toInt (by omega)
  refine j_aload_n C dX6_add_0 rfl rfl ?_
  refine j_get C dX6_add_1 jf_RX6_24 (wO cTp) rfl ?_
  refine j_if_lt (tgt := 19) C dX6_add_4 (by decide) (fun c_1 => ?_) (fun c_1 => ?_)
  · skip
    exact absurd c_1 (by rw [hs]; exact nI_pos (by omega))
  · skip
    refine j_aload_n C dX6_add_7 rfl rfl ?_
    refine j_get C dX6_add_8 jf_RX6_24 (wO cTp) rfl ?_
    refine j_aload_n C dX6_add_11 rfl rfl ?_
    refine j_get C dX6_add_12 jf_RX6_9 (wO cTp) rfl ?_
    refine j_alen (v := 160) C dX6_add_15 (wA cA6) gty_0 rfl ?_
    refine j_icmp_lt (tgt := 21) C dX6_add_16 (by decide) (fun c_2 => ?_) (fun c_2 => ?_)
    · skip
      refine j_aload_n C dX6_add_21 rfl rfl ?_
      refine j_get C dX6_add_22 jf_RX6_9 (wO cTp) rfl ?_
      refine j_aload_n C dX6_add_25 rfl rfl ?_
      refine j_get C dX6_add_26 jf_RX6_24 (wO cTp) rfl ?_
      refine j_iload_n C dX6_add_29 rfl rfl ?_
      refine j_iast C (s) dX6_add_30 (wA cA6) (hs) (by simp only [Int32.lt_iff_toInt_lt, Int32.le_iff_toInt_le, ← Int32.toInt_inj, Int32.reduceToInt, e_s] at c_2; omega) (by decide) (sA cA6 _ _) ?_
      refine j_aload_n C dX6_add_31 rfl rfl ?_
      refine j_dup C dX6_add_32 rfl ?_
      refine j_get C dX6_add_33 jf_RX6_24 (wO cTp) rfl ?_
      refine j_iconst (v := 1) C dX6_add_36 rfl ?_
      refine j_iadd C dX6_add_37 ?_
      refine j_put C dX6_add_38 jp_RX6_24 (wO cTp) (Nat.le_of_ble_eq_true rfl) rfl rfl (sO cTp 1 _ rfl) ?_
      refine j_iconst (v := 1) C dX6_add_41 rfl ?_
      refine hret _ _ _ _ dX6_add_42 rfl ?_
      refine Or.inl ⟨rfl, by simp only [Int32.lt_iff_toInt_lt, Int32.le_iff_toInt_le, ← Int32.toInt_inj, Int32.reduceToInt, e_s] at c_2; omega, ?_⟩
      have e : uM M 6 s v 5 1 + 1 = nI (s + 1) := by rw [uM_ne (k' := 5) (by decide), hs, nI_1]
      exact congrArg (uM (uM M 6 s v) 5 1) e
    · skip
      refine j_iconst (v := 0) C dX6_add_19 rfl ?_
      refine hret _ _ _ _ dX6_add_20 rfl ?_
      exact Or.inr ⟨rfl, by simp only [Int32.lt_iff_toInt_lt, Int32.le_iff_toInt_le, ← Int32.toInt_inj, Int32.reduceToInt, e_s] at c_2; omega, rfl⟩
set_option maxHeartbeats 4000000 in
set_option maxRecDepth 100000 in
theorem c_X6_empty (l : Launch) (g : jG) (a : Nat → Nat) (M : (Nat → Nat → Int32))   : Cv l g yX6_empty cX6_empty 1 0 0 0 0 (cW g a) [.ref (a 5)] M (fun z => z = uM M 5 1 0) := by
  refine mk_v (by decide +kernel) rfl (fun KK hKl hKg C hin hret => ?_)
  subst hKl; subst hKg
  refine j_lv (lv' := [(0, _)]) rfl ?_
  refine j_aload_n C dX6_empty_0 rfl rfl ?_
  refine j_iconst (v := 0) C dX6_empty_1 rfl ?_
  refine j_put C dX6_empty_2 jp_RX6_24 (wO cTp) (Nat.le_of_ble_eq_true rfl) rfl rfl (sO cTp 1 _ rfl) ?_
  refine hret _ _ _ dX6_empty_5 ?_
  exact rfl
set_option maxHeartbeats 4000000 in
set_option maxRecDepth 100000 in
theorem c_X9_feed (l : Launch) (g : jG) (a : Nat → Nat) (M : (Nat → Nat → Int32)) (v : Int32) (s : Nat) (hs : M 5 1 = nI s) (hs2 : s ≤ 160) : Ci l g yX9_feed cX9_feed 2 .int 1 21 0 0 (cW g a) [.ref (a 0), .int v] M (fun r z => if 0 ≤ v ∧ v < 256 then (if s < 160 then r = nI (s + 1) ∧ z = uM (uM M 6 s v) 5 1 (nI (s + 1)) else r = -4 ∧ z = M) else r = -2 ∧ z = M) := by
  refine mk_i (by decide +kernel) rfl (fun KK hKl hKg C hin hret => ?_)
  subst hKl; subst hKg
  refine j_lv (lv' := [(0, _), (1, _)]) rfl ?_
  refine j_iload_n C dX9_feed_0 rfl rfl ?_
  refine j_sipush (v := 256) C dX9_feed_1 rfl ?_
  refine j_callis C (c_X9_isIn _ _ _ _ _ _ ) dX9_feed_4 jm_RX9_154 ⟨by decide, by decide, by decide, by decide⟩ rfl (Nat.le_of_ble_eq_true rfl) (fun r z hz => ?_)
  obtain ⟨hb, hz⟩ := hz; have hz := hz.symm; subst hz
  rcases hb with ⟨rfl, b_4⟩ | ⟨rfl, b_4⟩
  · skip
    refine j_if_ne (tgt := 13) C dX9_feed_7 (by decide) (fun _ => ?_) (fun c => absurd c (by decide))
    refine j_aload_n C dX9_feed_13 rfl rfl ?_
    refine j_get C dX9_feed_14 jf_RX9_31 (wO cX0) rfl ?_
    refine j_getN C dX9_feed_17 jfn_RX9_77 (wO cRd) rfl ?_
    refine j_iload_n C dX9_feed_20 rfl rfl ?_
    refine j_calliv C (c_X6_add _ _ _ _ _ s hs hs2) dX9_feed_21 jm_RX9_85 ⟨_, _, _, _, wO cTp, rfl, rfl⟩ ⟨by decide, by decide, by decide, by decide⟩ rfl (Nat.le_of_ble_eq_true rfl) (fun r z hz => ?_)
    rcases hz with ⟨rfl, hr_21, hz⟩ | ⟨rfl, hr_21, hz⟩
    · have hz := hz.symm; subst hz
      refine j_if_eq (tgt := 40) C dX9_feed_24 (by decide) (fun c => absurd c (by decide)) (fun _ => ?_)
      refine j_aload_n C dX9_feed_27 rfl rfl ?_
      refine j_get C dX9_feed_28 jf_RX9_31 (wO cX0) rfl ?_
      refine j_getN C dX9_feed_31 jfn_RX9_77 (wO cRd) rfl ?_
      refine j_getN C dX9_feed_34 jfn_RX9_167 (wO cTp) rfl ?_
      refine j_goto (tgt := 42) C dX9_feed_37 (by decide) ?_
      refine hret _ _ _ _ dX9_feed_42 rfl ?_
      first
        | (rw [if_neg b_4]; exact ⟨rfl, rfl⟩)
        | (rw [if_pos b_4, if_neg hr_21]; exact ⟨rfl, rfl⟩)
        | (rw [if_pos b_4, if_pos hr_21]; exact ⟨by rw [uM_s], rfl⟩)
    · have hz := hz.symm; subst hz
      refine j_if_eq (tgt := 40) C dX9_feed_24 (by decide) (fun _ => ?_) (fun c => absurd (by decide) c)
      refine j_bipush (v := -4) C dX9_feed_40 rfl ?_
      refine hret _ _ _ _ dX9_feed_42 rfl ?_
      first
        | (rw [if_neg b_4]; exact ⟨rfl, rfl⟩)
        | (rw [if_pos b_4, if_neg hr_21]; exact ⟨rfl, rfl⟩)
        | (rw [if_pos b_4, if_pos hr_21]; exact ⟨by rw [uM_s], rfl⟩)
  · skip
    refine j_if_ne (tgt := 13) C dX9_feed_7 (by decide) (fun c => absurd (by decide) c) (fun _ => ?_)
    refine j_bipush (v := -2) C dX9_feed_10 rfl ?_
    refine hret _ _ _ _ dX9_feed_12 rfl ?_
    first
      | (rw [if_neg b_4]; exact ⟨rfl, rfl⟩)
      | (rw [if_pos b_4, if_neg hr_21]; exact ⟨rfl, rfl⟩)
      | (rw [if_pos b_4, if_pos hr_21]; exact ⟨by rw [uM_s], rfl⟩)
set_option maxHeartbeats 4000000 in
set_option maxRecDepth 100000 in
theorem c_X9_count (l : Launch) (g : jG) (a : Nat → Nat) (M : (Nat → Nat → Int32)) (w : Int32)  : Ci l g yX9_count cX9_count 2 .int 2 33 0 0 (cW g a) [.ref (a 0), .int w] M (fun r z => r = (if w = 0 then M 0 1 else if w = 1 then (if 0 ≤ M 2 1 - M 2 0 then M 2 1 - M 2 0 else 0 - (M 2 1 - M 2 0)) + 1 else if w = 2 then M 0 4 else if w = 3 then M 5 1 else if w = 4 then M 0 5 else -2) ∧ z = M) := by
  refine mk_i (by decide +kernel) rfl (fun KK hKl hKg C hin hret => ?_)
  subst hKl; subst hKg
  refine j_lv (lv' := [(0, _), (1, _)]) rfl ?_
  refine j_iload_n C dX9_count_0 rfl rfl ?_
  by_cases s_1 : w = 0
  · refine j_tableIn (off := 35) (tgt := 36) C dX9_count_1 (by rw [s_1]; decide) (by rw [s_1]; decide) (by rw [s_1]; rfl) (by decide) ?_
    refine j_aload_n C dX9_count_36 rfl rfl ?_
    refine j_get C dX9_count_37 jf_RX9_151 (wO cX0) rfl ?_
    refine hret _ _ _ _ dX9_count_40 rfl ?_
    refine ⟨?_, rfl⟩; simp [*]
  by_cases s_2 : w = 1
  · refine j_tableIn (off := 40) (tgt := 41) C dX9_count_1 (by rw [s_2]; decide) (by rw [s_2]; decide) (by rw [s_2]; rfl) (by decide) ?_
    refine j_aload_n C dX9_count_41 rfl rfl ?_
    refine j_get C dX9_count_42 jf_RX9_18 (wO cX0) rfl ?_
    refine j_calliv C (c_X8_passed _ _ _ _ 2 (Or.inl rfl) ) dX9_count_45 jm_RX9_223 ⟨_, _, _, _, wO (cWk (Or.inl rfl)), rfl, rfl⟩ ⟨by decide, by decide, by decide, by decide⟩ rfl (Nat.le_of_ble_eq_true rfl) (fun r z hz => ?_)
    obtain ⟨hr, hz⟩ := hz; have hr := hr.symm; have hz := hz.symm; subst hr; subst hz
    refine hret _ _ _ _ dX9_count_48 rfl ?_
    refine ⟨?_, rfl⟩; simp [*]
  by_cases s_3 : w = 2
  · refine j_tableIn (off := 48) (tgt := 49) C dX9_count_1 (by rw [s_3]; decide) (by rw [s_3]; decide) (by rw [s_3]; rfl) (by decide) ?_
    refine j_aload_n C dX9_count_49 rfl rfl ?_
    refine j_get C dX9_count_50 jf_RX9_98 (wO cX0) rfl ?_
    refine hret _ _ _ _ dX9_count_53 rfl ?_
    refine ⟨?_, rfl⟩; simp [*]
  by_cases s_4 : w = 3
  · refine j_tableIn (off := 53) (tgt := 54) C dX9_count_1 (by rw [s_4]; decide) (by rw [s_4]; decide) (by rw [s_4]; rfl) (by decide) ?_
    refine j_aload_n C dX9_count_54 rfl rfl ?_
    refine j_get C dX9_count_55 jf_RX9_31 (wO cX0) rfl ?_
    refine j_getN C dX9_count_58 jfn_RX9_77 (wO cRd) rfl ?_
    refine j_getN C dX9_count_61 jfn_RX9_167 (wO cTp) rfl ?_
    refine hret _ _ _ _ dX9_count_64 rfl ?_
    refine ⟨?_, rfl⟩; simp [*]
  by_cases s_5 : w = 4
  · refine j_tableIn (off := 64) (tgt := 65) C dX9_count_1 (by rw [s_5]; decide) (by rw [s_5]; decide) (by rw [s_5]; rfl) (by decide) ?_
    refine j_aload_n C dX9_count_65 rfl rfl ?_
    refine j_get C dX9_count_66 jf_RX9_170 (wO cX0) rfl ?_
    refine hret _ _ _ _ dX9_count_69 rfl ?_
    refine ⟨?_, rfl⟩; simp [*]
  have hsw : w.toInt < 0 ∨ 4 < w.toInt := by
    have q0 : ¬ w.toInt = 0 := lv_neT s_1 rfl
    have q1 : ¬ w.toInt = 1 := lv_neT s_2 rfl
    have q2 : ¬ w.toInt = 2 := lv_neT s_3 rfl
    have q3 : ¬ w.toInt = 3 := lv_neT s_4 rfl
    have q4 : ¬ w.toInt = 4 := lv_neT s_5 rfl
    omega
  refine j_tableOut (tgt := 70) C dX9_count_1 hsw (by decide) ?_
  refine j_bipush (v := -2) C dX9_count_70 rfl ?_
  refine hret _ _ _ _ dX9_count_72 rfl ?_
  refine ⟨?_, rfl⟩; simp [*]
set_option maxHeartbeats 4000000 in
set_option maxRecDepth 100000 in
theorem c_X9_sheet (l : Launch) (g : jG) (a : Nat → Nat) (M : (Nat → Nat → Int32)) (s : Int32) (t : Int32) (n : Int32)  : Ci l g yX9_sheet cX9_sheet 5 .int 1 23 0 0 (cW g a) [.ref (a 0), .int s, .int t, .int n] M (fun r z => if (0 ≤ s ∧ s < 4) ∧ (-1 ≤ t ∧ t ≤ 2) then (if t = -1 then r = 1 ∧ bcX M z (52 + 2 * s.toNatClampNeg) (-1) 0 else if 40 < n then r = -2 ∧ z = M else if n < 0 then r = -14 ∧ z = M else r = 1 ∧ bcX M z (52 + 2 * s.toNatClampNeg) t n) else r = -2 ∧ z = M) := by
  refine mk_i (by decide +kernel) rfl (fun KK hKl hKg C hin hret => ?_)
  subst hKl; subst hKg
  refine j_lv (lv' := [(0, _), (1, _), (2, _), (3, _)]) rfl ?_
  refine j_aload_n C dX9_sheet_0 rfl rfl ?_
  refine j_iload_n C dX9_sheet_1 rfl rfl ?_
  refine j_callqv C (c_X9_rowAt _ _ _ _ _ ) dX9_sheet_2 jm_RX9_226 ⟨_, _, _, _, wO cX0, rfl, rfl⟩ ⟨by decide, by decide, by decide, by decide⟩ rfl (Nat.le_of_ble_eq_true rfl) (fun r z hz => ?_)
  obtain ⟨hb, hz⟩ := hz; have hz := hz.symm; subst hz
  rcases hb with ⟨i_2, hi_2, he_2, rfl⟩ | ⟨hno_2, rfl⟩
  · skip
    subst he_2
    have hRw : isRw (52 + 2 * i_2) := isRw_h hi_2
    refine j_astore (lv' := [(4, _), (0, _), (1, _), (2, _), (3, _)]) C dX9_sheet_5 (by decide) rfl ?_
    refine j_aload C dX9_sheet_7 rfl ?_
    refine j_ifnull C dX9_sheet_9 ?_
    refine j_iload_n C dX9_sheet_12 rfl rfl ?_
    refine j_iconst (v := -1) C dX9_sheet_13 rfl ?_
    refine j_icmp_lt (tgt := 22) C dX9_sheet_14 (by decide) (fun c_14 => ?_) (fun c_14 => ?_)
    · skip
      refine j_bipush (v := -2) C dX9_sheet_22 rfl ?_
      refine hret _ _ _ _ dX9_sheet_24 rfl ?_
      first | (rw [if_neg (fun h => hno_2 h.1)]; exact ⟨rfl, rfl⟩) | (rw [if_neg (fun h => by have := h.2; simp only [Int32.lt_iff_toInt_lt, Int32.le_iff_toInt_le, ← Int32.toInt_inj, Int32.reduceToInt] at *; omega)]; exact ⟨rfl, rfl⟩)
    · skip
      refine j_iload_n C dX9_sheet_17 rfl rfl ?_
      refine j_iconst (v := 2) C dX9_sheet_18 rfl ?_
      refine j_icmp_le (tgt := 25) C dX9_sheet_19 (by decide) (fun c_19 => ?_) (fun c_19 => ?_)
      · skip
        refine j_iload_n C dX9_sheet_25 rfl rfl ?_
        refine j_iconst (v := -1) C dX9_sheet_26 rfl ?_
        refine j_icmp_ne (tgt := 39) C dX9_sheet_27 (by decide) (fun c_27 => ?_) (fun c_27 => ?_)
        · skip
          refine j_iload_n C dX9_sheet_39 rfl rfl ?_
          refine j_bipush (v := 40) C dX9_sheet_40 rfl ?_
          refine j_icmp_le (tgt := 48) C dX9_sheet_42 (by decide) (fun c_42 => ?_) (fun c_42 => ?_)
          · skip
            refine j_iload_n C dX9_sheet_48 rfl rfl ?_
            refine j_if_ge (tgt := 55) C dX9_sheet_49 (by decide) (fun c_49 => ?_) (fun c_49 => ?_)
            · skip
              refine j_aload C dX9_sheet_55 rfl ?_
              refine j_iload_n C dX9_sheet_57 rfl rfl ?_
              refine j_iload_n C dX9_sheet_58 rfl rfl ?_
              refine j_callvv C (c_X5_become _ _ _ _ (52 + 2 * i_2) (isRw_h hi_2) _ _ ) dX9_sheet_59 jm_RX9_257 ⟨_, _, _, _, wO (cRw (isRw_h hi_2)), rfl, rfl⟩ ⟨by decide, by decide, by decide, by decide⟩ rfl (Nat.le_of_ble_eq_true rfl) (fun z_59 hz_59 => ?_)
              obtain ⟨zk_59, zi_59, zf_59⟩ := hz_59
              refine j_iconst (v := 1) C dX9_sheet_62 rfl ?_
              refine hret _ _ _ _ dX9_sheet_63 rfl ?_
              rw [if_pos ⟨nI_0le (n := 4) hi_2 (by decide), by simp only [Int32.lt_iff_toInt_lt, Int32.le_iff_toInt_le, ← Int32.toInt_inj, Int32.reduceToInt] at c_14 c_19 ⊢; omega⟩]
              rw [nI_clamp (show i_2 < 2147483648 by omega)]
              rw [if_neg c_27, if_neg (by simp only [Int32.lt_iff_toInt_lt, Int32.le_iff_toInt_le, ← Int32.toInt_inj, Int32.reduceToInt] at c_42 ⊢; omega), if_neg (by simp only [Int32.lt_iff_toInt_lt, Int32.le_iff_toInt_le, ← Int32.toInt_inj, Int32.reduceToInt] at c_49 ⊢; omega)]; exact ⟨rfl, zk_59, zi_59, zf_59⟩
            · skip
              refine j_bipush (v := -14) C dX9_sheet_52 rfl ?_
              refine hret _ _ _ _ dX9_sheet_54 rfl ?_
              rw [if_pos ⟨nI_0le (n := 4) hi_2 (by decide), by simp only [Int32.lt_iff_toInt_lt, Int32.le_iff_toInt_le, ← Int32.toInt_inj, Int32.reduceToInt] at c_14 c_19 ⊢; omega⟩]
              rw [nI_clamp (show i_2 < 2147483648 by omega)]
              rw [if_neg c_27, if_neg (by simp only [Int32.lt_iff_toInt_lt, Int32.le_iff_toInt_le, ← Int32.toInt_inj, Int32.reduceToInt] at c_42 ⊢; omega), if_pos (by simp only [Int32.lt_iff_toInt_lt, Int32.le_iff_toInt_le, ← Int32.toInt_inj, Int32.reduceToInt] at c_49 ⊢; omega)]; exact ⟨rfl, rfl⟩
          · skip
            refine j_bipush (v := -2) C dX9_sheet_45 rfl ?_
            refine hret _ _ _ _ dX9_sheet_47 rfl ?_
            rw [if_pos ⟨nI_0le (n := 4) hi_2 (by decide), by simp only [Int32.lt_iff_toInt_lt, Int32.le_iff_toInt_le, ← Int32.toInt_inj, Int32.reduceToInt] at c_14 c_19 ⊢; omega⟩]
            rw [nI_clamp (show i_2 < 2147483648 by omega)]
            rw [if_neg c_27, if_pos (by simp only [Int32.lt_iff_toInt_lt, Int32.le_iff_toInt_le, ← Int32.toInt_inj, Int32.reduceToInt] at c_42 ⊢; omega)]; exact ⟨rfl, rfl⟩
        · skip
          refine j_aload C dX9_sheet_30 rfl ?_
          refine j_iconst (v := -1) C dX9_sheet_32 rfl ?_
          refine j_iconst (v := 0) C dX9_sheet_33 rfl ?_
          refine j_callvv C (c_X5_become _ _ _ _ (52 + 2 * i_2) (isRw_h hi_2) _ _ ) dX9_sheet_34 jm_RX9_257 ⟨_, _, _, _, wO (cRw (isRw_h hi_2)), rfl, rfl⟩ ⟨by decide, by decide, by decide, by decide⟩ rfl (Nat.le_of_ble_eq_true rfl) (fun z_34 hz_34 => ?_)
          obtain ⟨zk_34, zi_34, zf_34⟩ := hz_34
          refine j_iconst (v := 1) C dX9_sheet_37 rfl ?_
          refine hret _ _ _ _ dX9_sheet_38 rfl ?_
          rw [if_pos ⟨nI_0le (n := 4) hi_2 (by decide), by simp only [Int32.lt_iff_toInt_lt, Int32.le_iff_toInt_le, ← Int32.toInt_inj, Int32.reduceToInt] at c_14 c_19 ⊢; omega⟩]
          rw [nI_clamp (show i_2 < 2147483648 by omega)]
          rw [if_pos c_27]; exact ⟨rfl, zk_34, zi_34, zf_34⟩
      · skip
        refine j_bipush (v := -2) C dX9_sheet_22 rfl ?_
        refine hret _ _ _ _ dX9_sheet_24 rfl ?_
        first | (rw [if_neg (fun h => hno_2 h.1)]; exact ⟨rfl, rfl⟩) | (rw [if_neg (fun h => by have := h.2; simp only [Int32.lt_iff_toInt_lt, Int32.le_iff_toInt_le, ← Int32.toInt_inj, Int32.reduceToInt] at *; omega)]; exact ⟨rfl, rfl⟩)
  · skip
    refine j_astoreN (lv' := [(4, _), (0, _), (1, _), (2, _), (3, _)]) C dX9_sheet_5 (by decide) rfl ?_
    refine j_aloadN C dX9_sheet_7 rfl ?_
    refine j_ifnullN (tgt := 22) C dX9_sheet_9 (by decide) ?_
    refine j_bipush (v := -2) C dX9_sheet_22 rfl ?_
    refine hret _ _ _ _ dX9_sheet_24 rfl ?_
    first | (rw [if_neg (fun h => hno_2 h.1)]; exact ⟨rfl, rfl⟩) | (rw [if_neg (fun h => by have := h.2; simp only [Int32.lt_iff_toInt_lt, Int32.le_iff_toInt_le, ← Int32.toInt_inj, Int32.reduceToInt] at *; omega)]; exact ⟨rfl, rfl⟩)
set_option maxHeartbeats 4000000 in
set_option maxRecDepth 100000 in
theorem c_X9_cell (l : Launch) (g : jG) (a : Nat → Nat) (M : (Nat → Nat → Int32)) (s : Int32) (i : Int32) (v : Int32)  : Ci l g yX9_cell cX9_cell 5 .int 2 43 0 0 (cW g a) [.ref (a 0), .int s, .int i, .int v] M (fun r z => if 0 ≤ s ∧ s < 4 then (if M (52 + 2 * s.toNatClampNeg) 1 = -1 then r = -11 ∧ z = M else if 0 ≤ i ∧ i < M (52 + 2 * s.toNatClampNeg) 2 ∧ i < 40 then r = 1 ∧ z = uM M ((52 + 2 * s.toNatClampNeg) + 1) i.toNatClampNeg (if M (52 + 2 * s.toNatClampNeg) 1 = 0 then v.toInt8.toInt32 else if M (52 + 2 * s.toNatClampNeg) 1 = 1 then v.toInt16.toInt32 else v) else r = -12 ∧ z = M) else r = -2 ∧ z = M) := by
  refine mk_i (by decide +kernel) rfl (fun KK hKl hKg C hin hret => ?_)
  subst hKl; subst hKg
  refine j_lv (lv' := [(0, _), (1, _), (2, _), (3, _)]) rfl ?_
  refine j_aload_n C dX9_cell_0 rfl rfl ?_
  refine j_iload_n C dX9_cell_1 rfl rfl ?_
  refine j_callqv C (c_X9_rowAt _ _ _ _ _ ) dX9_cell_2 jm_RX9_226 ⟨_, _, _, _, wO cX0, rfl, rfl⟩ ⟨by decide, by decide, by decide, by decide⟩ rfl (Nat.le_of_ble_eq_true rfl) (fun r z hz => ?_)
  obtain ⟨hb, hz⟩ := hz; have hz := hz.symm; subst hz
  rcases hb with ⟨i_2, hi_2, he_2, rfl⟩ | ⟨hno_2, rfl⟩
  · skip
    subst he_2
    have hRw : isRw (52 + 2 * i_2) := isRw_h hi_2
    refine j_astore (lv' := [(4, _), (0, _), (1, _), (2, _), (3, _)]) C dX9_cell_5 (by decide) rfl ?_
    refine j_aload C dX9_cell_7 rfl ?_
    refine j_ifnonnull (tgt := 15) C dX9_cell_9 (by decide) ?_
    refine j_aload C dX9_cell_15 rfl ?_
    refine j_calliv C (c_X5_isMissing _ _ _ _ (52 + 2 * i_2) (isRw_h hi_2) ) dX9_cell_17 jm_RX9_230 ⟨_, _, _, _, wO (cRw (isRw_h hi_2)), rfl, rfl⟩ ⟨by decide, by decide, by decide, by decide⟩ rfl (Nat.le_of_ble_eq_true rfl) (fun r z hz => ?_)
    obtain ⟨hb, hz⟩ := hz; have hz := hz.symm; subst hz
    rcases hb with ⟨rfl, b_17⟩ | ⟨rfl, b_17⟩
    · skip
      refine j_if_eq (tgt := 26) C dX9_cell_20 (by decide) (fun c => absurd c (by decide)) (fun _ => ?_)
      refine j_bipush (v := -11) C dX9_cell_23 rfl ?_
      refine hret _ _ _ _ dX9_cell_25 rfl ?_
      rw [if_pos (show 0 ≤ nI i_2 ∧ nI i_2 < 4 from nI_0le (n := 4) hi_2 (by decide))]
      rw [nI_clamp (show i_2 < 2147483648 by omega)]
      rw [if_pos b_17]; exact ⟨rfl, rfl⟩
    · skip
      refine j_if_eq (tgt := 26) C dX9_cell_20 (by decide) (fun _ => ?_) (fun c => absurd (by decide) c)
      refine j_aload C dX9_cell_26 rfl ?_
      refine j_iload_n C dX9_cell_28 rfl rfl ?_
      refine j_calliv C (c_X5_has _ _ _ _ (52 + 2 * i_2) (isRw_h hi_2) _ ) dX9_cell_29 jm_RX9_284 ⟨_, _, _, _, wO (cRw (isRw_h hi_2)), rfl, rfl⟩ ⟨by decide, by decide, by decide, by decide⟩ rfl (Nat.le_of_ble_eq_true rfl) (fun r z hz => ?_)
      obtain ⟨hb, hz⟩ := hz; have hz := hz.symm; subst hz
      rcases hb with ⟨rfl, b_29⟩ | ⟨rfl, b_29⟩
      · skip
        refine j_if_ne (tgt := 38) C dX9_cell_32 (by decide) (fun _ => ?_) (fun c => absurd c (by decide))
        refine j_aload C dX9_cell_38 rfl ?_
        refine j_iload_n C dX9_cell_40 rfl rfl ?_
        refine j_iload_n C dX9_cell_41 rfl rfl ?_
        refine j_callvv C (c_X5_put _ _ _ _ (52 + 2 * i_2) (isRw_h hi_2) _ _ ) dX9_cell_42 jm_RX9_260 ⟨_, _, _, _, wO (cRw (isRw_h hi_2)), rfl, rfl⟩ ⟨by decide, by decide, by decide, by decide⟩ rfl (Nat.le_of_ble_eq_true rfl) (fun z_42 hz_42 => ?_)
        have hz_42 := hz_42.symm; subst hz_42
        refine j_iconst (v := 1) C dX9_cell_45 rfl ?_
        refine hret _ _ _ _ dX9_cell_46 rfl ?_
        rw [if_pos (show 0 ≤ nI i_2 ∧ nI i_2 < 4 from nI_0le (n := 4) hi_2 (by decide))]
        rw [nI_clamp (show i_2 < 2147483648 by omega)]
        rw [if_neg b_17, if_pos b_29]; exact ⟨rfl, by rw [if_pos b_29]⟩
      · skip
        refine j_if_ne (tgt := 38) C dX9_cell_32 (by decide) (fun c => absurd (by decide) c) (fun _ => ?_)
        refine j_bipush (v := -12) C dX9_cell_35 rfl ?_
        refine hret _ _ _ _ dX9_cell_37 rfl ?_
        rw [if_pos (show 0 ≤ nI i_2 ∧ nI i_2 < 4 from nI_0le (n := 4) hi_2 (by decide))]
        rw [nI_clamp (show i_2 < 2147483648 by omega)]
        rw [if_neg b_17, if_neg b_29]; exact ⟨rfl, rfl⟩
  · skip
    refine j_astoreN (lv' := [(4, _), (0, _), (1, _), (2, _), (3, _)]) C dX9_cell_5 (by decide) rfl ?_
    refine j_aloadN C dX9_cell_7 rfl ?_
    refine j_ifnonnullN C dX9_cell_9 ?_
    refine j_bipush (v := -2) C dX9_cell_12 rfl ?_
    refine hret _ _ _ _ dX9_cell_14 rfl ?_
    rw [if_neg hno_2]; exact ⟨rfl, rfl⟩
set_option maxHeartbeats 4000000 in
set_option maxRecDepth 100000 in
theorem c_X9_copy (l : Launch) (g : jG) (a : Nat → Nat) (M : (Nat → Nat → Int32)) (s : Int32) (p : Int32) (o : Int32) (q : Int32) (m : Int32)  : Ci l g yX9_copy cX9_copy 8 .int 2 54 0 0 (cW g a) [.ref (a 0), .int s, .int p, .int o, .int q, .int m] M (fun r z => if (0 ≤ s ∧ s < 4) ∧ (0 ≤ o ∧ o < 4) then (if M (52 + 2 * s.toNatClampNeg) 1 = -1 ∨ M (52 + 2 * o.toNatClampNeg) 1 = -1 then r = -11 ∧ z = M else if ¬ M (52 + 2 * s.toNatClampNeg) 1 = M (52 + 2 * o.toNatClampNeg) 1 then r = -13 ∧ z = M else if (0 ≤ p ∧ 0 ≤ m ∧ m ≤ M (52 + 2 * s.toNatClampNeg) 2 ∧ p ≤ M (52 + 2 * s.toNatClampNeg) 2 - m ∧ M (52 + 2 * s.toNatClampNeg) 2 ≤ 40) ∧ (0 ≤ q ∧ 0 ≤ m ∧ m ≤ M (52 + 2 * o.toNatClampNeg) 2 ∧ q ≤ M (52 + 2 * o.toNatClampNeg) 2 - m ∧ M (52 + 2 * o.toNatClampNeg) 2 ≤ 40) then r = m ∧ z = uR M ((52 + 2 * o.toNatClampNeg) + 1) (va_cpy (M ((52 + 2 * s.toNatClampNeg) + 1)) (M ((52 + 2 * o.toNatClampNeg) + 1)) p.toNatClampNeg q.toNatClampNeg m.toNatClampNeg) else r = -12 ∧ z = M) else r = -2 ∧ z = M) := by
  refine mk_i (by decide +kernel) rfl (fun KK hKl hKg C hin hret => ?_)
  subst hKl; subst hKg
  refine j_lv (lv' := [(0, _), (1, _), (2, _), (3, _), (4, _), (5, _)]) rfl ?_
  refine j_aload_n C dX9_copy_0 rfl rfl ?_
  refine j_iload_n C dX9_copy_1 rfl rfl ?_
  refine j_callqv C (c_X9_rowAt _ _ _ _ _ ) dX9_copy_2 jm_RX9_226 ⟨_, _, _, _, wO cX0, rfl, rfl⟩ ⟨by decide, by decide, by decide, by decide⟩ rfl (Nat.le_of_ble_eq_true rfl) (fun r z hz => ?_)
  obtain ⟨hb, hz⟩ := hz; have hz := hz.symm; subst hz
  rcases hb with ⟨i_2, hi_2, he_2, rfl⟩ | ⟨hno_2, rfl⟩
  · skip
    subst he_2
    have hRw : isRw (52 + 2 * i_2) := isRw_h hi_2
    refine j_astore (lv' := [(6, _), (0, _), (1, _), (2, _), (3, _), (4, _), (5, _)]) C dX9_copy_5 (by decide) rfl ?_
    refine j_aload_n C dX9_copy_7 rfl rfl ?_
    refine j_iload_n C dX9_copy_8 rfl rfl ?_
    refine j_callqv C (c_X9_rowAt _ _ _ _ _ ) dX9_copy_9 jm_RX9_226 ⟨_, _, _, _, wO cX0, rfl, rfl⟩ ⟨by decide, by decide, by decide, by decide⟩ rfl (Nat.le_of_ble_eq_true rfl) (fun r z hz => ?_)
    obtain ⟨hb, hz⟩ := hz; have hz := hz.symm; subst hz
    rcases hb with ⟨i_9, hi_9, he_9, rfl⟩ | ⟨hno_9, rfl⟩
    · skip
      subst he_9
      have hRo : isRw (52 + 2 * i_9) := isRw_h hi_9
      refine j_astore (lv' := [(7, _), (6, _), (0, _), (1, _), (2, _), (3, _), (4, _), (5, _)]) C dX9_copy_12 (by decide) rfl ?_
      refine j_aload C dX9_copy_14 rfl ?_
      refine j_ifnull C dX9_copy_16 ?_
      refine j_aload C dX9_copy_19 rfl ?_
      refine j_ifnonnull (tgt := 27) C dX9_copy_21 (by decide) ?_
      refine j_aload C dX9_copy_27 rfl ?_
      refine j_calliv C (c_X5_isMissing _ _ _ _ (52 + 2 * i_2) (isRw_h hi_2) ) dX9_copy_29 jm_RX9_230 ⟨_, _, _, _, wO (cRw (isRw_h hi_2)), rfl, rfl⟩ ⟨by decide, by decide, by decide, by decide⟩ rfl (Nat.le_of_ble_eq_true rfl) (fun r z hz => ?_)
      obtain ⟨hb, hz⟩ := hz; have hz := hz.symm; subst hz
      rcases hb with ⟨rfl, b_29⟩ | ⟨rfl, b_29⟩
      · skip
        refine j_if_ne (tgt := 43) C dX9_copy_32 (by decide) (fun _ => ?_) (fun c => absurd c (by decide))
        refine j_bipush (v := -11) C dX9_copy_43 rfl ?_
        refine hret _ _ _ _ dX9_copy_45 rfl ?_
        rw [if_pos ⟨nI_0le (n := 4) hi_2 (by decide), nI_0le (n := 4) hi_9 (by decide)⟩]
        rw [nI_clamp (show i_2 < 2147483648 by omega), nI_clamp (show i_9 < 2147483648 by omega)]
        first | (rw [if_pos (Or.inl b_29)]; exact ⟨rfl, rfl⟩) | (rw [if_pos (Or.inr b_37)]; exact ⟨rfl, rfl⟩)
      · skip
        refine j_if_ne (tgt := 43) C dX9_copy_32 (by decide) (fun c => absurd (by decide) c) (fun _ => ?_)
        refine j_aload C dX9_copy_35 rfl ?_
        refine j_calliv C (c_X5_isMissing _ _ _ _ (52 + 2 * i_9) (isRw_h hi_9) ) dX9_copy_37 jm_RX9_230 ⟨_, _, _, _, wO (cRw (isRw_h hi_9)), rfl, rfl⟩ ⟨by decide, by decide, by decide, by decide⟩ rfl (Nat.le_of_ble_eq_true rfl) (fun r z hz => ?_)
        obtain ⟨hb, hz⟩ := hz; have hz := hz.symm; subst hz
        rcases hb with ⟨rfl, b_37⟩ | ⟨rfl, b_37⟩
        · skip
          refine j_if_eq (tgt := 46) C dX9_copy_40 (by decide) (fun c => absurd c (by decide)) (fun _ => ?_)
          refine j_bipush (v := -11) C dX9_copy_43 rfl ?_
          refine hret _ _ _ _ dX9_copy_45 rfl ?_
          rw [if_pos ⟨nI_0le (n := 4) hi_2 (by decide), nI_0le (n := 4) hi_9 (by decide)⟩]
          rw [nI_clamp (show i_2 < 2147483648 by omega), nI_clamp (show i_9 < 2147483648 by omega)]
          first | (rw [if_pos (Or.inl b_29)]; exact ⟨rfl, rfl⟩) | (rw [if_pos (Or.inr b_37)]; exact ⟨rfl, rfl⟩)
        · skip
          refine j_if_eq (tgt := 46) C dX9_copy_40 (by decide) (fun _ => ?_) (fun c => absurd (by decide) c)
          refine j_aload C dX9_copy_46 rfl ?_
          refine j_getN C dX9_copy_48 jfn_RX9_287 (wO (cRw (isRw_h hi_2))) rfl ?_
          refine j_aload C dX9_copy_51 rfl ?_
          refine j_getN C dX9_copy_53 jfn_RX9_287 (wO (cRw (isRw_h hi_9))) rfl ?_
          refine j_icmp_eq (tgt := 62) C dX9_copy_56 (by decide) (fun c_56 => ?_) (fun c_56 => ?_)
          · skip
            refine j_aload C dX9_copy_62 rfl ?_
            refine j_iload_n C dX9_copy_64 rfl rfl ?_
            refine j_iload C dX9_copy_65 rfl ?_
            refine j_calliv C (c_X5_hasAll _ _ _ _ (52 + 2 * i_2) (isRw_h hi_2) _ _ ) dX9_copy_67 jm_RX9_290 ⟨_, _, _, _, wO (cRw (isRw_h hi_2)), rfl, rfl⟩ ⟨by decide, by decide, by decide, by decide⟩ rfl (Nat.le_of_ble_eq_true rfl) (fun r z hz => ?_)
            obtain ⟨hb, hz⟩ := hz; have hz := hz.symm; subst hz
            rcases hb with ⟨rfl, b_67⟩ | ⟨rfl, b_67⟩
            · skip
              refine j_if_eq (tgt := 85) C dX9_copy_70 (by decide) (fun c => absurd c (by decide)) (fun _ => ?_)
              refine j_aload C dX9_copy_73 rfl ?_
              refine j_iload C dX9_copy_75 rfl ?_
              refine j_iload C dX9_copy_77 rfl ?_
              refine j_calliv C (c_X5_hasAll _ _ _ _ (52 + 2 * i_9) (isRw_h hi_9) _ _ ) dX9_copy_79 jm_RX9_290 ⟨_, _, _, _, wO (cRw (isRw_h hi_9)), rfl, rfl⟩ ⟨by decide, by decide, by decide, by decide⟩ rfl (Nat.le_of_ble_eq_true rfl) (fun r z hz => ?_)
              obtain ⟨hb, hz⟩ := hz; have hz := hz.symm; subst hz
              rcases hb with ⟨rfl, b_79⟩ | ⟨rfl, b_79⟩
              · skip
                refine j_if_ne (tgt := 88) C dX9_copy_82 (by decide) (fun _ => ?_) (fun c => absurd c (by decide))
                refine j_aload C dX9_copy_88 rfl ?_
                refine j_aload C dX9_copy_90 rfl ?_
                refine j_iload_n C dX9_copy_92 rfl rfl ?_
                refine j_iload C dX9_copy_93 rfl ?_
                refine j_iload C dX9_copy_95 rfl ?_
                refine j_callvv C (c_X5_take _ _ _ _ (52 + 2 * i_9) (isRw_h hi_9) (52 + 2 * i_2) (isRw_h hi_2) _ _ _ ) dX9_copy_97 jm_RX9_293 ⟨_, _, _, _, wO (cRw (isRw_h hi_9)), rfl, rfl⟩ ⟨by decide, by decide, by decide, by decide⟩ rfl (Nat.le_of_ble_eq_true rfl) (fun z_97 hz_97 => ?_)
                have hz_97 := hz_97.symm; subst hz_97
                refine j_iload C dX9_copy_100 rfl ?_
                refine hret _ _ _ _ dX9_copy_102 rfl ?_
                rw [if_pos ⟨nI_0le (n := 4) hi_2 (by decide), nI_0le (n := 4) hi_9 (by decide)⟩]
                rw [nI_clamp (show i_2 < 2147483648 by omega), nI_clamp (show i_9 < 2147483648 by omega)]
                rw [if_neg (fun h => h.elim b_29 b_37), if_neg (fun h => h c_56), if_pos ⟨b_67, b_79⟩]; exact ⟨rfl, by rw [if_pos ⟨b_67, b_79⟩]⟩
              · skip
                refine j_if_ne (tgt := 88) C dX9_copy_82 (by decide) (fun c => absurd (by decide) c) (fun _ => ?_)
                refine j_bipush (v := -12) C dX9_copy_85 rfl ?_
                refine hret _ _ _ _ dX9_copy_87 rfl ?_
                rw [if_pos ⟨nI_0le (n := 4) hi_2 (by decide), nI_0le (n := 4) hi_9 (by decide)⟩]
                rw [nI_clamp (show i_2 < 2147483648 by omega), nI_clamp (show i_9 < 2147483648 by omega)]
                rw [if_neg (fun h => h.elim b_29 b_37), if_neg (fun h => h c_56)]
                first | (rw [if_neg (fun h => b_67 h.1)]; exact ⟨rfl, rfl⟩) | (rw [if_neg (fun h => b_79 h.2)]; exact ⟨rfl, rfl⟩)
            · skip
              refine j_if_eq (tgt := 85) C dX9_copy_70 (by decide) (fun _ => ?_) (fun c => absurd (by decide) c)
              refine j_bipush (v := -12) C dX9_copy_85 rfl ?_
              refine hret _ _ _ _ dX9_copy_87 rfl ?_
              rw [if_pos ⟨nI_0le (n := 4) hi_2 (by decide), nI_0le (n := 4) hi_9 (by decide)⟩]
              rw [nI_clamp (show i_2 < 2147483648 by omega), nI_clamp (show i_9 < 2147483648 by omega)]
              rw [if_neg (fun h => h.elim b_29 b_37), if_neg (fun h => h c_56)]
              first | (rw [if_neg (fun h => b_67 h.1)]; exact ⟨rfl, rfl⟩) | (rw [if_neg (fun h => b_79 h.2)]; exact ⟨rfl, rfl⟩)
          · skip
            refine j_bipush (v := -13) C dX9_copy_59 rfl ?_
            refine hret _ _ _ _ dX9_copy_61 rfl ?_
            rw [if_pos ⟨nI_0le (n := 4) hi_2 (by decide), nI_0le (n := 4) hi_9 (by decide)⟩]
            rw [nI_clamp (show i_2 < 2147483648 by omega), nI_clamp (show i_9 < 2147483648 by omega)]
            rw [if_neg (fun h => h.elim b_29 b_37), if_pos c_56]; exact ⟨rfl, rfl⟩
    · skip
      refine j_astoreN (lv' := [(7, _), (6, _), (0, _), (1, _), (2, _), (3, _), (4, _), (5, _)]) C dX9_copy_12 (by decide) rfl ?_
      refine j_aload C dX9_copy_14 rfl ?_
      refine j_ifnull C dX9_copy_16 ?_
      refine j_aloadN C dX9_copy_19 rfl ?_
      refine j_ifnonnullN C dX9_copy_21 ?_
      refine j_bipush (v := -2) C dX9_copy_24 rfl ?_
      refine hret _ _ _ _ dX9_copy_26 rfl ?_
      first | (rw [if_neg (fun h => hno_2 h.1)]; exact ⟨rfl, rfl⟩) | (rw [if_neg (fun h => hno_9 h.2)]; exact ⟨rfl, rfl⟩)
  · skip
    refine j_astoreN (lv' := [(6, _), (0, _), (1, _), (2, _), (3, _), (4, _), (5, _)]) C dX9_copy_5 (by decide) rfl ?_
    refine j_aload_n C dX9_copy_7 rfl rfl ?_
    refine j_iload_n C dX9_copy_8 rfl rfl ?_
    refine j_callqv C (c_X9_rowAt _ _ _ _ _ ) dX9_copy_9 jm_RX9_226 ⟨_, _, _, _, wO cX0, rfl, rfl⟩ ⟨by decide, by decide, by decide, by decide⟩ rfl (Nat.le_of_ble_eq_true rfl) (fun r z hz => ?_)
    obtain ⟨hb, hz⟩ := hz; have hz := hz.symm; subst hz
    rcases hb with ⟨i_9, hi_9, he_9, rfl⟩ | ⟨hno_9, rfl⟩
    · skip
      subst he_9
      have hRo : isRw (52 + 2 * i_9) := isRw_h hi_9
      refine j_astore (lv' := [(7, _), (6, _), (0, _), (1, _), (2, _), (3, _), (4, _), (5, _)]) C dX9_copy_12 (by decide) rfl ?_
      refine j_aloadN C dX9_copy_14 rfl ?_
      refine j_ifnullN (tgt := 24) C dX9_copy_16 (by decide) ?_
      refine j_bipush (v := -2) C dX9_copy_24 rfl ?_
      refine hret _ _ _ _ dX9_copy_26 rfl ?_
      first | (rw [if_neg (fun h => hno_2 h.1)]; exact ⟨rfl, rfl⟩) | (rw [if_neg (fun h => hno_9 h.2)]; exact ⟨rfl, rfl⟩)
    · skip
      refine j_astoreN (lv' := [(7, _), (6, _), (0, _), (1, _), (2, _), (3, _), (4, _), (5, _)]) C dX9_copy_12 (by decide) rfl ?_
      refine j_aloadN C dX9_copy_14 rfl ?_
      refine j_ifnullN (tgt := 24) C dX9_copy_16 (by decide) ?_
      refine j_bipush (v := -2) C dX9_copy_24 rfl ?_
      refine hret _ _ _ _ dX9_copy_26 rfl ?_
      first | (rw [if_neg (fun h => hno_2 h.1)]; exact ⟨rfl, rfl⟩) | (rw [if_neg (fun h => hno_9 h.2)]; exact ⟨rfl, rfl⟩)
