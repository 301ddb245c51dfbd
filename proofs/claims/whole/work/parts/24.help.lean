/-- the class's state: n gloves, t texts with rows T, text ru is the rule -/
def inX (M : Nat → Nat → Int32) (n t ru : Nat) (T : Nat → Nat → List Int32) : Prop := (M 0 1 = nI n ∧ n ≤ 6) ∧ (M 0 4 = nI t ∧ 1 ≤ t ∧ t ≤ 6) ∧ (M 0 5 = nI ru ∧ ru < t) ∧ ((0 ≤ M 2 0 ∧ M 2 0 ≤ 19) ∧ 0 ≤ M 2 1 ∧ M 2 1 ≤ 19) ∧ ∀ j, j < t → txR M (34 + 3 * j) (T j)
theorem inX_c {M N : Nat → Nat → Int32} {n t ru : Nat} {T : Nat → Nat → List Int32} (h : inX M n t ru T) (h0 : N 0 = M 0) (h2 : N 2 = M 2) (h3 : ∀ k, 34 ≤ k → k < 52 → N k = M k) : inX N n t ru T := by
  obtain ⟨h4, h5, h6, h7, h8⟩ := h
  exact ⟨by rw [h0]; exact h4, by rw [h0]; exact h5, by rw [h0]; exact h6, by rw [h2]; exact h7, fun j hj => txR_c (h8 j hj) (h3 _ (by omega) (by omega)) (h3 _ (by omega) (by omega))⟩
/-- cells that nothing asks for later -/
def scX (k : Nat) : Prop := 21 ≤ k ∧ k < 28
def fkX (M z : Nat → Nat → Int32) : Prop := ∀ k, ¬ scX k → z k = M k
theorem fkX_r {M : Nat → Nat → Int32} : fkX M M := fun _ _ => rfl
theorem fkX_t {M N z : Nat → Nat → Int32} (h : fkX M N) (h2 : fkX N z) : fkX M z := fun k hk => (h2 k hk).trans (h k hk)
theorem fkX_in {M z : Nat → Nat → Int32} {n t ru : Nat} {T : Nat → Nat → List Int32} (h : inX M n t ru T) (hf : fkX M z) : inX z n t ru T := inX_c h (hf 0 (by unfold scX; omega)) (hf 2 (by unfold scX; omega)) (fun k a b => hf k (by unfold scX; omega))
theorem gl_of {p c : Int32} {n : Nat} (hc : c = nI n) (hn : n ≤ 6) (h : 0 ≤ p ∧ p < c) : p.toNatClampNeg < n ∧ p = nI p.toNatClampNeg := by
  have e := cl_toInt h.1
  rw [hc] at h
  have e2 : (nI n).toInt = n := nI_toInt (by omega)
  refine ⟨?_, cl_nI h.1⟩
  simp only [Int32.lt_iff_toInt_lt, Int32.le_iff_toInt_le, Int32.reduceToInt] at h
  omega
theorem nI_0le {i n : Nat} (h : i < n) (hn : n < 2147483648) : 0 ≤ nI i ∧ nI i < nI n := ⟨nI_le (a := 0) (by omega) (by omega), nI_lt h hn⟩
theorem pas_no {f t : Int32} (h : 0 ≤ f) (h2 : 0 ≤ t) : ¬ pas f t (-1) := by
  unfold pas
  simp only [Int32.lt_iff_toInt_lt, Int32.le_iff_toInt_le, Int32.reduceToInt] at *
  have : (-1 : Int32).toInt = -1 := rfl
  omega

set_option maxHeartbeats 4000000 in
set_option maxRecDepth 100000 in
theorem c_X9_gloveAt (l : Launch) (g : jG) (a : Nat → Nat) (M : (Nat → Nat → Int32)) (p : Int32) (n : Nat) (hc : M 0 1 = nI n) (hn : n ≤ 6) : Cq l g yX9_gloveAt cX9_gloveAt 2 (.object "OneGlove$Glove") 0 0 0 0 (cW g a) [.ref (a 0), .int p] M (fun r z => ((∃ i, i < n ∧ p = nI i ∧ r = some (a (28 + i))) ∨ (¬ (0 ≤ p ∧ p < M 0 1) ∧ r = none)) ∧ z = M) := by
  refine mk_q (by decide +kernel) (Or.inl ⟨_, rfl⟩) rfl (fun KK hKl hKg C hin hret => ?_)
  subst hKl; subst hKg
  refine j_lv (lv' := [(0, _), (1, _)]) rfl ?_
  have e_c : (M 0 1).toInt = n := by rw [hc]; exact nI_toInt (by omega)
  refine j_iload_n C dX9_gloveAt_0 rfl rfl ?_
  refine j_if_lt (tgt := 30) C dX9_gloveAt_1 (by decide) (fun c_1 => ?_) (fun c_1 => ?_)
  · skip
    refine j_null C dX9_gloveAt_30 ?_
    refine hret _ _ none _ dX9_gloveAt_31 ?_
    exact ⟨Or.inr ⟨by simp only [Int32.lt_iff_toInt_lt, Int32.le_iff_toInt_le, ← Int32.toInt_inj, Int32.reduceToInt, e_c] at c_1 ⊢; omega, rfl⟩, rfl⟩
  · skip
    refine j_iload_n C dX9_gloveAt_4 rfl rfl ?_
    refine j_aload_n C dX9_gloveAt_5 rfl rfl ?_
    refine j_get C dX9_gloveAt_6 jf_RX9_151 (wO cX0) rfl ?_
    refine j_icmp_ge (tgt := 30) C dX9_gloveAt_9 (by decide) (fun c_2 => ?_) (fun c_2 => ?_)
    · skip
      refine j_null C dX9_gloveAt_30 ?_
      refine hret _ _ none _ dX9_gloveAt_31 ?_
      exact ⟨Or.inr ⟨by simp only [Int32.lt_iff_toInt_lt, Int32.le_iff_toInt_le, ← Int32.toInt_inj, Int32.reduceToInt, e_c] at c_1 c_2 ⊢; omega, rfl⟩, rfl⟩
    · skip
      refine j_iload_n C dX9_gloveAt_12 rfl rfl ?_
      refine j_aload_n C dX9_gloveAt_13 rfl rfl ?_
      refine j_get C dX9_gloveAt_14 jf_RX9_11 (wO cX0) rfl ?_
      refine j_alen (v := 6) C dX9_gloveAt_17 (wR cR1) gty_2 rfl ?_
      refine j_icmp_ge (tgt := 30) C dX9_gloveAt_18 (by decide) (fun c_3 => ?_) (fun c_3 => ?_)
      · skip
        refine j_null C dX9_gloveAt_30 ?_
        refine hret _ _ none _ dX9_gloveAt_31 ?_
        exact ⟨Or.inr ⟨by simp only [Int32.lt_iff_toInt_lt, Int32.le_iff_toInt_le, ← Int32.toInt_inj, Int32.reduceToInt, e_c] at c_1 c_2 c_3 ⊢; omega, rfl⟩, rfl⟩
      · skip
        refine j_aload_n C dX9_gloveAt_21 rfl rfl ?_
        refine j_get C dX9_gloveAt_22 jf_RX9_11 (wO cX0) rfl ?_
        refine j_iload_n C dX9_gloveAt_25 rfl rfl ?_
        refine j_aald C (p.toNatClampNeg) dX9_gloveAt_26 (wR cR1) gty_2 ((gl_of (p := p) hc hn ⟨by simp only [Int32.lt_iff_toInt_lt, Int32.le_iff_toInt_le, ← Int32.toInt_inj, Int32.reduceToInt] at c_1 ⊢; omega, by simp only [Int32.lt_iff_toInt_lt, Int32.le_iff_toInt_le, ← Int32.toInt_inj, Int32.reduceToInt] at c_2 ⊢; omega⟩).2) (by have := (gl_of (p := p) hc hn ⟨by simp only [Int32.lt_iff_toInt_lt, Int32.le_iff_toInt_le, ← Int32.toInt_inj, Int32.reduceToInt] at c_1 ⊢; omega, by simp only [Int32.lt_iff_toInt_lt, Int32.le_iff_toInt_le, ← Int32.toInt_inj, Int32.reduceToInt] at c_2 ⊢; omega⟩).1; omega) (by decide) ?_
        refine j_goto (tgt := 31) C dX9_gloveAt_27 (by decide) ?_
        refine hret _ _ (some _) _ dX9_gloveAt_31 ?_
        have hg := gl_of (p := p) hc hn ⟨(by simp only [Int32.lt_iff_toInt_lt, Int32.le_iff_toInt_le, ← Int32.toInt_inj, Int32.reduceToInt] at c_1 ⊢; omega), by simp only [Int32.lt_iff_toInt_lt, Int32.le_iff_toInt_le, ← Int32.toInt_inj, Int32.reduceToInt] at c_2 ⊢; omega⟩
        exact ⟨Or.inl ⟨_, hg.1, hg.2, rfl⟩, rfl⟩
set_option maxHeartbeats 4000000 in
set_option maxRecDepth 100000 in
theorem c_X9_rowAt (l : Launch) (g : jG) (a : Nat → Nat) (M : (Nat → Nat → Int32)) (p : Int32)  : Cq l g yX9_rowAt cX9_rowAt 2 (.object "OneGlove$Row") 0 0 0 0 (cW g a) [.ref (a 0), .int p] M (fun r z => ((∃ i, i < 4 ∧ p = nI i ∧ r = some (a (52 + 2 * i))) ∨ (¬ (0 ≤ p ∧ p < 4) ∧ r = none)) ∧ z = M) := by
  refine mk_q (by decide +kernel) (Or.inl ⟨_, rfl⟩) rfl (fun KK hKl hKg C hin hret => ?_)
  subst hKl; subst hKg
  refine j_lv (lv' := [(0, _), (1, _)]) rfl ?_
  refine j_iload_n C dX9_rowAt_0 rfl rfl ?_
  refine j_if_lt (tgt := 22) C dX9_rowAt_1 (by decide) (fun c_1 => ?_) (fun c_1 => ?_)
  · skip
    refine j_null C dX9_rowAt_22 ?_
    refine hret _ _ none _ dX9_rowAt_23 ?_
    exact ⟨Or.inr ⟨by simp only [Int32.lt_iff_toInt_lt, Int32.le_iff_toInt_le, ← Int32.toInt_inj, Int32.reduceToInt] at c_1 ⊢; omega, rfl⟩, rfl⟩
  · skip
    refine j_iload_n C dX9_rowAt_4 rfl rfl ?_
    refine j_aload_n C dX9_rowAt_5 rfl rfl ?_
    refine j_get C dX9_rowAt_6 jf_RX9_37 (wO cX0) rfl ?_
    refine j_alen (v := 4) C dX9_rowAt_9 (wR cR10) gty_4 rfl ?_
    refine j_icmp_ge (tgt := 22) C dX9_rowAt_10 (by decide) (fun c_2 => ?_) (fun c_2 => ?_)
    · skip
      refine j_null C dX9_rowAt_22 ?_
      refine hret _ _ none _ dX9_rowAt_23 ?_
      exact ⟨Or.inr ⟨by simp only [Int32.lt_iff_toInt_lt, Int32.le_iff_toInt_le, ← Int32.toInt_inj, Int32.reduceToInt] at c_1 c_2 ⊢; omega, rfl⟩, rfl⟩
    · skip
      refine j_aload_n C dX9_rowAt_13 rfl rfl ?_
      refine j_get C dX9_rowAt_14 jf_RX9_37 (wO cX0) rfl ?_
      refine j_iload_n C dX9_rowAt_17 rfl rfl ?_
      refine j_aald C (p.toNatClampNeg) dX9_rowAt_18 (wR cR10) gty_4 (cl_nI (by simp only [Int32.lt_iff_toInt_lt, Int32.le_iff_toInt_le, ← Int32.toInt_inj, Int32.reduceToInt] at c_1 ⊢; omega)) (cl_lt (m := 4) (by simp only [Int32.lt_iff_toInt_lt, Int32.le_iff_toInt_le, ← Int32.toInt_inj, Int32.reduceToInt] at c_1 ⊢; omega) (by simp only [Int32.lt_iff_toInt_lt, Int32.le_iff_toInt_le, ← Int32.toInt_inj, Int32.reduceToInt] at c_2 ⊢; omega) rfl) (by decide) ?_
      refine j_goto (tgt := 23) C dX9_rowAt_19 (by decide) ?_
      refine hret _ _ (some _) _ dX9_rowAt_23 ?_
      exact ⟨Or.inl ⟨_, cl_lt (m := 4) (by simp only [Int32.lt_iff_toInt_lt, Int32.le_iff_toInt_le, ← Int32.toInt_inj, Int32.reduceToInt] at c_1 ⊢; omega) (by simp only [Int32.lt_iff_toInt_lt, Int32.le_iff_toInt_le, ← Int32.toInt_inj, Int32.reduceToInt] at c_2 ⊢; omega) rfl, cl_nI (by simp only [Int32.lt_iff_toInt_lt, Int32.le_iff_toInt_le, ← Int32.toInt_inj, Int32.reduceToInt] at c_1 ⊢; omega), rfl⟩, rfl⟩
set_option maxHeartbeats 4000000 in
set_option maxRecDepth 100000 in
theorem c_X9_textAt (l : Launch) (g : jG) (a : Nat → Nat) (M : (Nat → Nat → Int32)) (p : Int32) (j t : Nat) (hp : p = nI j) (ht : M 0 4 = nI t) (hj : j < t) (ht6 : t ≤ 6) : Cq l g yX9_textAt cX9_textAt 2 (.object "OneGlove$Text") 0 0 0 0 (cW g a) [.ref (a 0), .int p] M (fun r z => r = some (a (34 + 3 * j)) ∧ z = M) := by
  refine mk_q (by decide +kernel) (Or.inl ⟨_, rfl⟩) rfl (fun KK hKl hKg C hin hret => ?_)
  subst hKl; subst hKg
  refine j_lv (lv' := [(0, _), (1, _)]) rfl ?_
  have e_j : (nI j).toInt = j := nI_toInt (by omega); have e_t : (nI t).toInt = t := nI_toInt (by omega); subst hp
  refine j_aload_n C dX9_textAt_0 rfl rfl ?_
  refine j_get C dX9_textAt_1 jf_RX9_24 (wO cX0) rfl ?_
  refine j_iload_n C dX9_textAt_4 rfl rfl ?_
  refine j_if_lt (tgt := 29) C dX9_textAt_5 (by decide) (fun c_1 => ?_) (fun c_1 => ?_)
  · skip
    exact absurd c_1 (nI_pos (by omega))
  · skip
    refine j_iload_n C dX9_textAt_8 rfl rfl ?_
    refine j_aload_n C dX9_textAt_9 rfl rfl ?_
    refine j_get C dX9_textAt_10 jf_RX9_98 (wO cX0) rfl ?_
    refine j_icmp_ge (tgt := 29) C dX9_textAt_13 (by decide) (fun c_2 => ?_) (fun c_2 => ?_)
    · skip
      exact absurd c_2 (by rw [ht]; exact nI_ge hj (by omega))
    · skip
      refine j_iload_n C dX9_textAt_16 rfl rfl ?_
      refine j_aload_n C dX9_textAt_17 rfl rfl ?_
      refine j_get C dX9_textAt_18 jf_RX9_24 (wO cX0) rfl ?_
      refine j_alen (v := 6) C dX9_textAt_21 (wR cR3) gty_3 rfl ?_
      refine j_icmp_ge (tgt := 29) C dX9_textAt_22 (by decide) (fun c_3 => ?_) (fun c_3 => ?_)
      · skip
        exact absurd c_3 (nI_ge (show j < 6 by omega) (by decide))
      · skip
        refine j_iload_n C dX9_textAt_25 rfl rfl ?_
        refine j_goto (tgt := 30) C dX9_textAt_26 (by decide) ?_
        refine j_aald C (j) dX9_textAt_30 (wR cR3) gty_3 (rfl) (by omega) (by decide) ?_
        refine hret _ _ (some _) _ dX9_textAt_31 ?_
        exact ⟨rfl, rfl⟩
set_option maxHeartbeats 4000000 in
set_option maxRecDepth 100000 in
theorem c_X9_ruleText (l : Launch) (g : jG) (a : Nat → Nat) (M : (Nat → Nat → Int32))  (n t ru : Nat) (T : Nat → Nat → List Int32) (hX : inX M n t ru T) : Cq l g yX9_ruleText cX9_ruleText 1 (.object "OneGlove$Text") 1 21 0 0 (cW g a) [.ref (a 0)] M (fun r z => r = some (a (34 + 3 * ru)) ∧ z = M) := by
  refine mk_q (by decide +kernel) (Or.inl ⟨_, rfl⟩) rfl (fun KK hKl hKg C hin hret => ?_)
  subst hKl; subst hKg
  refine j_lv (lv' := [(0, _)]) rfl ?_
  refine j_aload_n C dX9_ruleText_0 rfl rfl ?_
  refine j_aload_n C dX9_ruleText_1 rfl rfl ?_
  refine j_get C dX9_ruleText_2 jf_RX9_170 (wO cX0) rfl ?_
  refine j_callqv C (c_X9_textAt _ _ _ _ _ ru t hX.2.2.1.1 hX.2.1.1 hX.2.2.1.2 hX.2.1.2.2) dX9_ruleText_5 jm_RX9_253 ⟨_, _, _, _, wO cX0, rfl, rfl⟩ ⟨by decide, by decide, by decide, by decide⟩ rfl (Nat.le_of_ble_eq_true rfl) (fun r z hz => ?_)
  obtain ⟨hr, hz⟩ := hz; have hr := hr.symm; have hz := hz.symm; subst hr; subst hz
  refine j_top (v' := .ref (a (34 + 3 * ru))) rfl ?_
  refine hret _ _ (some _) _ dX9_ruleText_8 ?_
  exact ⟨rfl, rfl⟩
set_option maxHeartbeats 4000000 in
set_option maxRecDepth 100000 in
theorem c_X9_follow (l : Launch) (g : jG) (a : Nat → Nat) (M : (Nat → Nat → Int32)) (G : Nat) (hG : isGl G) (n t ru : Nat) (T : Nat → Nat → List Int32) (hX : inX M n t ru T) : Cv l g yX9_follow cX9_follow 2 4 96 0 0 (cW g a) [.ref (a 0), .ref (a G)] M (fun z => (∀ k, (k < 21 ∨ 25 < k) → z k = M k) ∧ (∀ d, d < 30 → z 21 d = whS (T ru) (M G) (M 2 0) d) ∧ ∀ d, d < 30 → z 23 d = lkS (T ru) (M G) (M 2 0) (M 2 0) (M 2 1) (M 2 2) d) := by
  refine mk_v (by decide +kernel) rfl (fun KK hKl hKg C hin hret => ?_)
  subst hKl; subst hKg
  refine j_lv (lv' := [(0, _), (1, _)]) rfl ?_
  have hru : isTx (34 + 3 * ru) := isTx_h (show ru < 6 by have h1 := hX.2.2.1.2; have h2 := hX.2.1.2.2; omega); have hG5 := Gl24 hG
  refine j_aload_n C dX9_follow_0 rfl rfl ?_
  refine j_get C dX9_follow_1 jf_RX9_51 (wO cX0) rfl ?_
  refine j_aload_n C dX9_follow_4 rfl rfl ?_
  refine j_callqv C (c_X9_ruleText _ _ _ _  n t ru T hX) dX9_follow_5 jm_RX9_205 ⟨_, _, _, _, wO cX0, rfl, rfl⟩ ⟨by decide, by decide, by decide, by decide⟩ rfl (Nat.le_of_ble_eq_true rfl) (fun r z hz => ?_)
  obtain ⟨hr, hz⟩ := hz; have hr := hr.symm; have hz := hz.symm; subst hr; subst hz
  refine j_top (v' := .ref (a (34 + 3 * ru))) rfl ?_
  refine j_aload_n C dX9_follow_8 rfl rfl ?_
  refine j_aload_n C dX9_follow_9 rfl rfl ?_
  refine j_get C dX9_follow_10 jf_RX9_18 (wO cX0) rfl ?_
  refine j_get C dX9_follow_13 jf_RX9_121 (wO (cWk (Or.inl rfl))) rfl ?_
  refine j_callvv C (c_X0_follow _ _ _ _ (34 + 3 * ru) hru G hG _ (T ru) (hX.2.2.2.2 ru hX.2.2.1.2)) dX9_follow_16 jm_RX9_209 ⟨_, _, _, _, wO cCo, rfl, rfl⟩ ⟨by decide, by decide, by decide, by decide⟩ rfl (Nat.le_of_ble_eq_true rfl) (fun z_16 hz_16 => ?_)
  obtain ⟨zf_16, zw_16⟩ := hz_16
  have hX2 : inX z_16 n t ru T := inX_c hX (zf_16 0 (by decide) (by decide) (by decide)) (zf_16 2 (by decide) (by decide) (by decide)) (fun k a b => zf_16 k (by omega) (by omega) (by omega))
  refine j_aload_n C dX9_follow_19 rfl rfl ?_
  refine j_get C dX9_follow_20 jf_RX9_51 (wO cX0) rfl ?_
  refine j_aload_n C dX9_follow_23 rfl rfl ?_
  refine j_callqv C (c_X9_ruleText _ _ _ _  n t ru T hX2) dX9_follow_24 jm_RX9_205 ⟨_, _, _, _, wO cX0, rfl, rfl⟩ ⟨by decide, by decide, by decide, by decide⟩ rfl (Nat.le_of_ble_eq_true rfl) (fun r z hz => ?_)
  obtain ⟨hr, hz⟩ := hz; have hr := hr.symm; have hz := hz.symm; subst hr; subst hz
  refine j_top (v' := .ref (a (34 + 3 * ru))) rfl ?_
  refine j_aload_n C dX9_follow_27 rfl rfl ?_
  refine j_aload_n C dX9_follow_28 rfl rfl ?_
  refine j_get C dX9_follow_29 jf_RX9_18 (wO cX0) rfl ?_
  refine j_get C dX9_follow_32 jf_RX9_121 (wO (cWk (Or.inl rfl))) rfl ?_
  refine j_callvv C (c_X0_ask _ _ _ _ (34 + 3 * ru) hru G hG _ (T ru) (hX2.2.2.2.2 ru hX2.2.2.1.2) _ zw_16) dX9_follow_35 jm_RX9_212 ⟨_, _, _, _, wO cCo, rfl, rfl⟩ ⟨by decide, by decide, by decide, by decide⟩ rfl (Nat.le_of_ble_eq_true rfl) (fun z_35 hz_35 => ?_)
  obtain ⟨zf_35, zw_35⟩ := hz_35
  refine j_aload_n C dX9_follow_38 rfl rfl ?_
  refine j_get C dX9_follow_39 jf_RX9_51 (wO cX0) rfl ?_
  refine j_aload_n C dX9_follow_42 rfl rfl ?_
  refine j_aload_n C dX9_follow_43 rfl rfl ?_
  refine j_get C dX9_follow_44 jf_RX9_18 (wO cX0) rfl ?_
  refine j_callvv C (c_X0_pass _ _ _ _ G hG 2 (Or.inl rfl) ) dX9_follow_47 jm_RX9_215 ⟨_, _, _, _, wO cCo, rfl, rfl⟩ ⟨by decide, by decide, by decide, by decide⟩ rfl (Nat.le_of_ble_eq_true rfl) (fun z_47 hz_47 => ?_)
  obtain ⟨zf_47, zl_47⟩ := hz_47
  refine hret _ _ _ dX9_follow_50 ?_
  refine ⟨fun k h => by rw [zf_47 k (by omega), zf_35 k (by omega) (by omega) (by omega), zf_16 k (by omega) (by omega) (by omega)], fun d hd => ?_, fun d hd => ?_⟩
  · rw [zf_47 21 (by decide), zf_35 21 (by decide) (by decide) (by decide)]; exact zw_16 d hd
  · have g1 : z_35 G = M G := by rw [zf_35 G hG5.2.2.2.1 hG5.1 hG5.2.1, zf_16 G hG5.2.2.1 hG5.1 hG5.2.1]
    have g0 : z_16 G = M G := by rw [zf_16 G hG5.2.2.1 hG5.1 hG5.2.1]
    have g2 : z_35 2 = M 2 := by rw [zf_35 2 (by decide) (by decide) (by decide), zf_16 2 (by decide) (by decide) (by decide)]
    have g3 : z_16 2 = M 2 := by rw [zf_16 2 (by decide) (by decide) (by decide)]
    have hw := zw_35 d hd
    rw [g0, g3] at hw
    rw [zl_47 d hd, g1, g2, hw, zf_35 21 (by decide) (by decide) (by decide), zw_16 d hd, lkS]
    obtain ⟨h1, h2, h3, ⟨⟨h4, h5⟩, h6, h7⟩, h8⟩ := hX
    by_cases hq : whS (T ru) (M G) (M 2 0) d = -1
    · rw [if_pos hq, if_pos hq, hq, if_neg (pas_no h4 h6)]
    · rw [if_neg hq, if_neg hq]
set_option maxHeartbeats 4000000 in
set_option maxRecDepth 100000 in
theorem c_X9_mindsOn (l : Launch) (g : jG) (a : Nat → Nat) (M : (Nat → Nat → Int32)) (p : Int32) (G : Nat) (hG : isGl G) (n t ru : Nat) (T : Nat → Nat → List Int32) (hX : inX M n t ru T) (q : Nat) (hp : p = nI q) (hq : q < 30) : Ci l g yX9_mindsOn cX9_mindsOn 3 .int 4 94 0 0 (cW g a) [.ref (a 0), .int p, .ref (a G)] M (fun r z => r = (if M 21 q = -1 then 0 else wiS (vaS (enS (M G) (M 21 q) p (M 2 0)) (T ru 2)) 0 99) ∧ ∀ k, k ≠ 24 → k ≠ 25 → z k = M k) := by
  refine mk_i (by decide +kernel) rfl (fun KK hKl hKg C hin hret => ?_)
  subst hKl; subst hKg
  refine j_lv (lv' := [(0, _), (1, _), (2, _)]) rfl ?_
  have hru : isTx (34 + 3 * ru) := isTx_h (show ru < 6 by have h1 := hX.2.2.1.2; have h2 := hX.2.1.2.2; omega)
  refine j_aload_n C dX9_mindsOn_0 rfl rfl ?_
  refine j_get C dX9_mindsOn_1 jf_RX9_51 (wO cX0) rfl ?_
  refine j_iload_n C dX9_mindsOn_4 rfl rfl ?_
  refine j_aload_n C dX9_mindsOn_5 rfl rfl ?_
  refine j_callqv C (c_X9_ruleText _ _ _ _  n t ru T hX) dX9_mindsOn_6 jm_RX9_205 ⟨_, _, _, _, wO cX0, rfl, rfl⟩ ⟨by decide, by decide, by decide, by decide⟩ rfl (Nat.le_of_ble_eq_true rfl) (fun r z hz => ?_)
  obtain ⟨hr, hz⟩ := hz; have hr := hr.symm; have hz := hz.symm; subst hr; subst hz
  refine j_top (v' := .ref (a (34 + 3 * ru))) rfl ?_
  refine j_aload_n C dX9_mindsOn_9 rfl rfl ?_
  refine j_aload_n C dX9_mindsOn_10 rfl rfl ?_
  refine j_get C dX9_mindsOn_11 jf_RX9_18 (wO cX0) rfl ?_
  refine j_get C dX9_mindsOn_14 jf_RX9_121 (wO (cWk (Or.inl rfl))) rfl ?_
  refine j_calliv C (c_X0_mindsOn _ _ _ _ _ (34 + 3 * ru) hru G hG _ q hp hq (T ru) (hX.2.2.2.2 ru hX.2.2.1.2)) dX9_mindsOn_17 jm_RX9_300 ⟨_, _, _, _, wO cCo, rfl, rfl⟩ ⟨by decide, by decide, by decide, by decide⟩ rfl (Nat.le_of_ble_eq_true rfl) (fun r_17 z_17 hz_17 => ?_)
  obtain ⟨hr, zf_17⟩ := hz_17; have hr := hr.symm; subst hr
  refine hret _ _ _ _ dX9_mindsOn_20 rfl ?_
  exact ⟨rfl, zf_17⟩
set_option maxHeartbeats 4000000 in
set_option maxRecDepth 100000 in
theorem c_X9_partsOf (l : Launch) (g : jG) (a : Nat → Nat) (M : (Nat → Nat → Int32)) (G : Nat) (hG : isGl G) (m : Int32) (n t ru : Nat) (T : Nat → Nat → List Int32) (hX : inX M n t ru T) (q : Nat) (hm : m = nI q) (hq : q ≤ 30) : Cl l g yX9_partsOf cX9_partsOf 3 5 117 0 0 (cW g a) [.ref (a 0), .ref (a G), .int m] M (fun r z => r = paS (lkS (T ru) (M G) (M 2 0) (M 2 0) (M 2 1) (M 2 2)) q ∧ ∀ k, (k < 21 ∨ 25 < k) → z k = M k) := by
  refine mk_l (by decide +kernel) rfl (fun KK hKl hKg C hin hret => ?_)
  subst hKl; subst hKg
  refine j_lv (lv' := [(0, _), (1, _), (2, _)]) rfl ?_
  refine j_aload_n C dX9_partsOf_0 rfl rfl ?_
  refine j_aload_n C dX9_partsOf_1 rfl rfl ?_
  refine j_callvv C (c_X9_follow _ _ _ _ G hG n t ru T hX) dX9_partsOf_2 jm_RX9_173 ⟨_, _, _, _, wO cX0, rfl, rfl⟩ ⟨by decide, by decide, by decide, by decide⟩ rfl (Nat.le_of_ble_eq_true rfl) (fun z_2 hz_2 => ?_)
  obtain ⟨zf_2, zw_2, zl_2⟩ := hz_2
  refine j_aload_n C dX9_partsOf_5 rfl rfl ?_
  refine j_get C dX9_partsOf_6 jf_RX9_51 (wO cX0) rfl ?_
  refine j_iload_n C dX9_partsOf_9 rfl rfl ?_
  refine j_calllv C (c_X0_partsBy _ _ _ _ _ q hm hq) dX9_partsOf_10 jm_RX9_219 ⟨_, _, _, _, wO cCo, rfl, rfl⟩ ⟨by decide, by decide, by decide, by decide⟩ rfl (Nat.le_of_ble_eq_true rfl) (fun r z hz => ?_)
  obtain ⟨hr, hz⟩ := hz; have hr := hr.symm; have hz := hz.symm; subst hr; subst hz
  refine hret _ _ _ _ dX9_partsOf_13 ?_
  exact ⟨by rw [paS, paS, leS_c q (fun d hd => zl_2 d (by omega))], zf_2⟩
