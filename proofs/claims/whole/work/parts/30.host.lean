set_option maxHeartbeats 4000000 in
set_option maxRecDepth 100000 in
theorem c_X1_isUnder (l : Launch) (g : jG) (a : Nat → Nat) (M : (Nat → Nat → Int32)) (K : Nat) (hK : isGl K) (q : Int32)  : Ci l g yX1_isUnder cX1_isUnder 4 .boolean 0 0 0 0 (cW g a) [.ref (a K), .int q] M (fun r z => ((r = 1 ∧ undF q 6 (M K 0)) ∨ (r = 0 ∧ ¬ undF q 6 (M K 0))) ∧ z = M) := by
  refine mk_i (by decide +kernel) rfl (fun KK hKl hKg C hin hret => ?_)
  subst hKl; subst hKg
  refine j_lv (lv' := [(0, _), (1, _)]) rfl ?_
  refine j_aload_n C dX1_isUnder_0 rfl rfl ?_
  refine j_get C dX1_isUnder_1 jf_RX1_9 (wO (cGl hK)) rfl ?_
  refine j_istore_n (lv' := [(2, _), (0, _), (1, _)]) C dX1_isUnder_4 rfl (by decide) rfl ?_
  refine j_iconst (v := 0) C dX1_isUnder_5 rfl ?_
  refine j_istore_n (lv' := [(3, _), (2, _), (0, _), (1, _)]) C dX1_isUnder_6 rfl (by decide) rfl ?_
  have L_7 : ∀ k : Nat, ∀ (i : Nat) (x : Int32), i ≤ 6 → 6 < i + k → (undF q 6 (M K 0) ↔ undF q (6 - i) x) → J KK (cW (kG KK) a) 0 0 M [(0, .ref (a K)), (1, .int q), (2, .int x), (3, .int (nI i))] 7 [] := by
    intro k
    induction k with
    | zero => intro i x h1 hk hu; omega
    | succ k ih =>
      intro i x h1 hk hu
      have e_i : (nI i).toInt = i := nI_toInt (by omega)
      refine j_iload_n C dX1_isUnder_7 rfl rfl ?_
      refine j_bipush (v := 6) C dX1_isUnder_8 rfl ?_
      refine j_icmp_ge (tgt := 44) C dX1_isUnder_10 (by decide) (fun c_1 => ?_) (fun c_1 => ?_)
      · skip
        have hi : 6 - i = 0 := by simp only [Int32.lt_iff_toInt_lt, Int32.le_iff_toInt_le, ← Int32.toInt_inj, Int32.reduceToInt, e_i] at c_1; omega
        refine j_iconst (v := 0) C dX1_isUnder_44 rfl ?_
        refine hret _ _ _ _ dX1_isUnder_45 rfl ?_
        first
          | exact ⟨Or.inr ⟨rfl, fun h => by have h2 := hu.mp h; rw [hi] at h2; exact h2⟩, rfl⟩
          | exact ⟨Or.inr ⟨rfl, fun h => by have h2 := hu.mp h; rw [hm, undF] at h2; have := h2.1; simp only [Int32.lt_iff_toInt_lt, Int32.le_iff_toInt_le, ← Int32.toInt_inj, Int32.reduceToInt] at *; omega⟩, rfl⟩
      · skip
        have hi : i < 6 := by simp only [Int32.lt_iff_toInt_lt, Int32.le_iff_toInt_le, ← Int32.toInt_inj, Int32.reduceToInt, e_i] at c_1; omega
        obtain ⟨m, hm⟩ : ∃ m, 6 - i = m + 1 := ⟨5 - i, by omega⟩
        refine j_iload_n C dX1_isUnder_13 rfl rfl ?_
        refine j_if_lt (tgt := 44) C dX1_isUnder_14 (by decide) (fun c_14 => ?_) (fun c_14 => ?_)
        · skip
          refine j_iconst (v := 0) C dX1_isUnder_44 rfl ?_
          refine hret _ _ _ _ dX1_isUnder_45 rfl ?_
          first
            | exact ⟨Or.inr ⟨rfl, fun h => by have h2 := hu.mp h; rw [hi] at h2; exact h2⟩, rfl⟩
            | exact ⟨Or.inr ⟨rfl, fun h => by have h2 := hu.mp h; rw [hm, undF] at h2; have := h2.1; simp only [Int32.lt_iff_toInt_lt, Int32.le_iff_toInt_le, ← Int32.toInt_inj, Int32.reduceToInt] at *; omega⟩, rfl⟩
        · skip
          refine j_iload_n C dX1_isUnder_17 rfl rfl ?_
          refine j_above C dX1_isUnder_18 ⟨RX9, List.mem_of_getElem? (i := 20) (by decide +kernel)⟩ ?_
          refine j_abvlen C dX1_isUnder_21 ?_
          refine j_icmp_ge (tgt := 44) C dX1_isUnder_22 (by decide) (fun c_22 => ?_) (fun c_22 => ?_)
          · skip
            refine j_iconst (v := 0) C dX1_isUnder_44 rfl ?_
            refine hret _ _ _ _ dX1_isUnder_45 rfl ?_
            first
              | exact ⟨Or.inr ⟨rfl, fun h => by have h2 := hu.mp h; rw [hi] at h2; exact h2⟩, rfl⟩
              | exact ⟨Or.inr ⟨rfl, fun h => by have h2 := hu.mp h; rw [hm, undF] at h2; have := h2.1; simp only [Int32.lt_iff_toInt_lt, Int32.le_iff_toInt_le, ← Int32.toInt_inj, Int32.reduceToInt] at *; omega⟩, rfl⟩
          · skip
            have hx6 : 0 ≤ x ∧ x < 6 := by simp only [Int32.lt_iff_toInt_lt, Int32.le_iff_toInt_le, ← Int32.toInt_inj, Int32.reduceToInt] at c_14 c_22 ⊢; omega
            refine j_iload_n C dX1_isUnder_25 rfl rfl ?_
            refine j_iload_n C dX1_isUnder_26 rfl rfl ?_
            refine j_icmp_ne (tgt := 32) C dX1_isUnder_27 (by decide) (fun c_27 => ?_) (fun c_27 => ?_)
            · skip
              have hne : ¬ x = q := c_27
              refine j_above C dX1_isUnder_32 ⟨RX9, List.mem_of_getElem? (i := 20) (by decide +kernel)⟩ ?_
              refine j_iload_n C dX1_isUnder_35 rfl rfl ?_
              refine j_abvald C (x.toNatClampNeg) dX1_isUnder_36 (cl_nI hx6.1) (cl_lt hx6.1 hx6.2 rfl) ?_
              refine j_istore_n (lv' := [(2, _), (0, _), (1, _), (3, _)]) C dX1_isUnder_37 rfl (by decide) rfl ?_
              refine j_iinc (lv' := [(3, _), (2, _), (0, _), (1, _)]) (v := nI (i + 1)) C dX1_isUnder_38 rfl (j_inc1 i) (by decide) rfl ?_
              refine j_goto (tgt := 7) C dX1_isUnder_41 (by decide) ?_
              refine j_lv (lv' := [(0, _), (1, _), (2, _), (3, _)]) rfl ?_
              exact ih (i + 1) _ (by omega) (by omega) (hu.trans (by
                rw [hm, show 6 - (i + 1) = m by omega, undF]
                exact ⟨fun h => h.2.elim (fun e => absurd e hne) id, fun h => ⟨hx6, Or.inr h⟩⟩))
            · skip
              refine j_iconst (v := 1) C dX1_isUnder_30 rfl ?_
              refine hret _ _ _ _ dX1_isUnder_31 rfl ?_
              exact ⟨Or.inl ⟨rfl, hu.mpr (by rw [hm, undF]; exact ⟨hx6, Or.inl c_27⟩)⟩, rfl⟩
  refine j_lv (lv' := [(0, _), (1, _), (2, _), (3, _)]) rfl ?_
  exact L_7 7 0 _ (by omega) (by omega) Iff.rfl
set_option maxHeartbeats 4000000 in
set_option maxRecDepth 100000 in
theorem c_X9_taken (l : Launch) (g : jG) (a : Nat → Nat) (M : (Nat → Nat → Int32)) (p : Int32) (q : Int32) (n : Nat) (hn : M 0 1 = nI n) (hn6 : n ≤ 6) : Ci l g yX9_taken cX9_taken 4 .int 1 23 0 0 (cW g a) [.ref (a 0), .int p, .int q] M (fun r z => r = (if 0 ≤ q ∧ q < 6 then (if 0 ≤ p ∧ p < M 0 1 then (@ite _ (undF q 6 (M (28 + p.toNatClampNeg) 0)) (Classical.propDecidable _) (M (28 + p.toNatClampNeg) 1) (-13)) else -11) else -2) ∧ z = M) := by
  refine mk_i (by decide +kernel) rfl (fun KK hKl hKg C hin hret => ?_)
  subst hKl; subst hKg
  refine j_lv (lv' := [(0, _), (1, _), (2, _)]) rfl ?_
  refine j_iload_n C dX9_taken_0 rfl rfl ?_
  refine j_bipush (v := 6) C dX9_taken_1 rfl ?_
  refine j_callis C (c_X9_isIn _ _ _ _ _ _ ) dX9_taken_3 jm_RX9_154 ⟨by decide, by decide, by decide, by decide⟩ rfl (Nat.le_of_ble_eq_true rfl) (fun r z hz => ?_)
  obtain ⟨hb, hz⟩ := hz; have hz := hz.symm; subst hz
  rcases hb with ⟨rfl, b_3⟩ | ⟨rfl, b_3⟩
  · skip
    refine j_if_ne (tgt := 12) C dX9_taken_6 (by decide) (fun _ => ?_) (fun c => absurd c (by decide))
    refine j_aload_n C dX9_taken_12 rfl rfl ?_
    refine j_iload_n C dX9_taken_13 rfl rfl ?_
    refine j_callqv C (c_X9_gloveAt _ _ _ _ _ n hn hn6) dX9_taken_14 jm_RX9_110 ⟨_, _, _, _, wO cX0, rfl, rfl⟩ ⟨by decide, by decide, by decide, by decide⟩ rfl (Nat.le_of_ble_eq_true rfl) (fun r z hz => ?_)
    obtain ⟨hb, hz⟩ := hz; have hz := hz.symm; subst hz
    rcases hb with ⟨i_14, hi_14, he_14, rfl⟩ | ⟨hno_14, rfl⟩
    · skip
      subst he_14
      refine j_astore_n (lv' := [(3, _), (0, _), (1, _), (2, _)]) C dX9_taken_17 rfl (by decide) rfl ?_
      refine j_aload_n C dX9_taken_18 rfl rfl ?_
      refine j_ifnonnull (tgt := 25) C dX9_taken_19 (by decide) ?_
      refine j_aload_n C dX9_taken_25 rfl rfl ?_
      refine j_iload_n C dX9_taken_26 rfl rfl ?_
      refine j_calliv C (c_X1_isUnder _ _ _ _ (28 + i_14) (isGl_h (Nat.lt_of_lt_of_le hi_14 hn6)) _ ) dX9_taken_27 jm_RX9_297 ⟨_, _, _, _, wO (cGl (isGl_h (Nat.lt_of_lt_of_le hi_14 hn6))), rfl, rfl⟩ ⟨by decide, by decide, by decide, by decide⟩ rfl (Nat.le_of_ble_eq_true rfl) (fun r z hz => ?_)
      obtain ⟨hb, hz⟩ := hz; have hz := hz.symm; subst hz
      rcases hb with ⟨rfl, b_27⟩ | ⟨rfl, b_27⟩
      · skip
        refine j_if_eq (tgt := 40) C dX9_taken_30 (by decide) (fun c => absurd c (by decide)) (fun _ => ?_)
        refine j_aload_n C dX9_taken_33 rfl rfl ?_
        refine j_get C dX9_taken_34 jf_RX9_134 (wO (cGl (isGl_h (Nat.lt_of_lt_of_le hi_14 hn6)))) rfl ?_
        refine j_goto (tgt := 42) C dX9_taken_37 (by decide) ?_
        refine hret _ _ _ _ dX9_taken_42 rfl ?_
        refine ⟨?_, rfl⟩
        rw [if_pos b_3, if_pos ⟨(nI_0le hi_14 (by omega)).1, by rw [hn]; exact (nI_0le hi_14 (by omega)).2⟩, nI_clamp (show i_14 < 2147483648 by omega)]
        first | exact (if_pos b_27).symm | exact (if_neg b_27).symm
      · skip
        refine j_if_eq (tgt := 40) C dX9_taken_30 (by decide) (fun _ => ?_) (fun c => absurd (by decide) c)
        refine j_bipush (v := -13) C dX9_taken_40 rfl ?_
        refine hret _ _ _ _ dX9_taken_42 rfl ?_
        refine ⟨?_, rfl⟩
        rw [if_pos b_3, if_pos ⟨(nI_0le hi_14 (by omega)).1, by rw [hn]; exact (nI_0le hi_14 (by omega)).2⟩, nI_clamp (show i_14 < 2147483648 by omega)]
        first | exact (if_pos b_27).symm | exact (if_neg b_27).symm
    · skip
      refine j_astore_nN (lv' := [(3, _), (0, _), (1, _), (2, _)]) C dX9_taken_17 rfl (by decide) rfl ?_
      refine j_aload_nN C dX9_taken_18 rfl rfl ?_
      refine j_ifnonnullN C dX9_taken_19 ?_
      refine j_bipush (v := -11) C dX9_taken_22 rfl ?_
      refine hret _ _ _ _ dX9_taken_24 rfl ?_
      exact ⟨by rw [if_pos b_3, if_neg hno_14], rfl⟩
  · skip
    refine j_if_ne (tgt := 12) C dX9_taken_6 (by decide) (fun c => absurd (by decide) c) (fun _ => ?_)
    refine j_bipush (v := -2) C dX9_taken_9 rfl ?_
    refine hret _ _ _ _ dX9_taken_11 rfl ?_
    exact ⟨(if_neg b_3).symm, rfl⟩
theorem gl_at {p sz : Int32} {f : Nat → Int32} (h : 0 ≤ p ∧ 0 ≤ (3 : Int32) ∧ 3 ≤ sz ∧ p ≤ sz - 3 ∧ sz ≤ 40) : ∃ an : Nat, p.toNatClampNeg = an ∧ (if 0 ≤ p ∧ p < sz ∧ p < 40 then f p.toNatClampNeg else 0) = f an ∧ (if 0 ≤ p + 1 ∧ p + 1 < sz ∧ p + 1 < 40 then f (p + 1).toNatClampNeg else 0) = f (an + 1) ∧ (if 0 ≤ p + 2 ∧ p + 2 < sz ∧ p + 2 < 40 then f (p + 2).toNatClampNeg else 0) = f (an + 2) := by
  obtain ⟨h1, -, h2, h3, h4⟩ := h
  obtain ⟨s, hs, rfl⟩ : ∃ s, s ≤ 40 ∧ sz = nI s := nI_of2 (M := 40) (n := 40) rfl (by simp only [Int32.lt_iff_toInt_lt, Int32.le_iff_toInt_le, Int32.reduceToInt] at *; omega) h4
  have e_s : (nI s).toInt = s := nI_toInt (by omega)
  have hs3 : 3 ≤ s := by simp only [Int32.le_iff_toInt_le, e_s, Int32.reduceToInt] at h2; omega
  have e3 : nI s - 3 = nI (s - 3) := pk_sub (b := 3) hs3
  rw [e3] at h3
  obtain ⟨an, ha, rfl⟩ : ∃ j, j ≤ s - 3 ∧ p = nI j := nI_of2 (M := nI (s - 3)) (n := s - 3) (nI_toInt (by omega)) (by simp only [Int32.lt_iff_toInt_lt, Int32.le_iff_toInt_le, Int32.reduceToInt] at *; omega) h3
  have a1 : nI an + 1 = nI (an + 1) := nI_add an 1
  have a2 : nI an + 2 = nI (an + 2) := nI_add an 2
  refine ⟨an, nI_clamp (by omega), ?_, ?_, ?_⟩
  · rw [if_pos ⟨nI_pos' (by omega), nI_lt (by omega) (by omega), nI_lt (b := 40) (by omega) (by decide)⟩, nI_clamp (by omega)]
  · rw [a1, if_pos ⟨nI_pos' (by omega), nI_lt (by omega) (by omega), nI_lt (b := 40) (by omega) (by decide)⟩, nI_clamp (by omega)]
  · rw [a2, if_pos ⟨nI_pos' (by omega), nI_lt (by omega) (by omega), nI_lt (b := 40) (by omega) (by decide)⟩, nI_clamp (by omega)]
set_option maxHeartbeats 4000000 in
set_option maxRecDepth 100000 in
theorem c_X9_gloves (l : Launch) (g : jG) (a : Nat → Nat) (M : (Nat → Nat → Int32)) (s : Int32) (t : Int32) (p : Int32) (m : Int32) (n : Nat) (hn : M 0 1 = nI n) (hn6 : n ≤ 6) (h40 : ∀ i, i < 4 → M (52 + 2 * i) 2 ≤ 40) : Ci l g yX9_gloves cX9_gloves 12 .int 2 46 0 0 (cW g a) [.ref (a 0), .int s, .int t, .int p, .int m] M (fun r z => if (0 ≤ s ∧ s < 4) ∧ (0 ≤ t ∧ t < 3) ∧ (0 ≤ m ∧ m < 7) then (if ¬ M (52 + 2 * s.toNatClampNeg) 1 = -1 ∧ ¬ M (52 + 2 * s.toNatClampNeg) 1 = t then r = -13 ∧ z = M else if M (52 + 2 * s.toNatClampNeg) 1 = -1 then r = -11 ∧ z = M else r = (rnX (M (52 + 2 * s.toNatClampNeg + 1)) (M (52 + 2 * s.toNatClampNeg) 2) m.toNatClampNeg p M n 0).1 ∧ z = (rnX (M (52 + 2 * s.toNatClampNeg + 1)) (M (52 + 2 * s.toNatClampNeg) 2) m.toNatClampNeg p M n 0).2.1) else r = -2 ∧ z = M) := by
  refine mk_i (by decide +kernel) rfl (fun KK hKl hKg C hin hret => ?_)
  subst hKl; subst hKg
  refine j_lv (lv' := [(0, _), (1, _), (2, _), (3, _), (4, _)]) rfl ?_
  refine j_aload_n C dX9_gloves_0 rfl rfl ?_
  refine j_iload_n C dX9_gloves_1 rfl rfl ?_
  refine j_callqv C (c_X9_rowAt _ _ _ _ _ ) dX9_gloves_2 jm_RX9_226 ⟨_, _, _, _, wO cX0, rfl, rfl⟩ ⟨by decide, by decide, by decide, by decide⟩ rfl (Nat.le_of_ble_eq_true rfl) (fun r z hz => ?_)
  obtain ⟨hb, hz⟩ := hz; have hz := hz.symm; subst hz
  rcases hb with ⟨i_2, hi_2, he_2, rfl⟩ | ⟨hno_2, rfl⟩
  · skip
    subst he_2
    have hRw : isRw (52 + 2 * i_2) := isRw_h hi_2
    refine j_astore (lv' := [(5, _), (0, _), (1, _), (2, _), (3, _), (4, _)]) C dX9_gloves_5 (by decide) rfl ?_
    refine j_aload C dX9_gloves_7 rfl ?_
    refine j_ifnull C dX9_gloves_9 ?_
    refine j_iload_n C dX9_gloves_12 rfl rfl ?_
    refine j_iconst (v := 3) C dX9_gloves_13 rfl ?_
    refine j_callis C (c_X9_isIn _ _ _ _ _ _ ) dX9_gloves_14 jm_RX9_154 ⟨by decide, by decide, by decide, by decide⟩ rfl (Nat.le_of_ble_eq_true rfl) (fun r z hz => ?_)
    obtain ⟨hb, hz⟩ := hz; have hz := hz.symm; subst hz
    rcases hb with ⟨rfl, b_14⟩ | ⟨rfl, b_14⟩
    · skip
      refine j_if_eq (tgt := 30) C dX9_gloves_17 (by decide) (fun c => absurd c (by decide)) (fun _ => ?_)
      refine j_iload C dX9_gloves_20 rfl ?_
      refine j_bipush (v := 7) C dX9_gloves_22 rfl ?_
      refine j_callis C (c_X9_isIn _ _ _ _ _ _ ) dX9_gloves_24 jm_RX9_154 ⟨by decide, by decide, by decide, by decide⟩ rfl (Nat.le_of_ble_eq_true rfl) (fun r z hz => ?_)
      obtain ⟨hb, hz⟩ := hz; have hz := hz.symm; subst hz
      rcases hb with ⟨rfl, b_24⟩ | ⟨rfl, b_24⟩
      · skip
        obtain ⟨mn, hm, rfl⟩ := in_of (B := 7) b_24 rfl
        have hs40 := h40 i_2 hi_2
        refine j_if_ne (tgt := 33) C dX9_gloves_27 (by decide) (fun _ => ?_) (fun c => absurd c (by decide))
        refine j_aload C dX9_gloves_33 rfl ?_
        refine j_calliv C (c_X5_isMissing _ _ _ _ (52 + 2 * i_2) (isRw_h hi_2) ) dX9_gloves_35 jm_RX9_230 ⟨_, _, _, _, wO (cRw (isRw_h hi_2)), rfl, rfl⟩ ⟨by decide, by decide, by decide, by decide⟩ rfl (Nat.le_of_ble_eq_true rfl) (fun r z hz => ?_)
        obtain ⟨hb, hz⟩ := hz; have hz := hz.symm; subst hz
        rcases hb with ⟨rfl, b_35⟩ | ⟨rfl, b_35⟩
        · skip
          have c_47' : M (52 + 2 * i_2) 1 = t ∨ M (52 + 2 * i_2) 1 = -1 := Or.inr b_35
          refine j_if_ne (tgt := 53) C dX9_gloves_38 (by decide) (fun _ => ?_) (fun c => absurd c (by decide))
          refine j_aload C dX9_gloves_53 rfl ?_
          refine j_calliv C (c_X5_isMissing _ _ _ _ (52 + 2 * i_2) (isRw_h hi_2) ) dX9_gloves_55 jm_RX9_230 ⟨_, _, _, _, wO (cRw (isRw_h hi_2)), rfl, rfl⟩ ⟨by decide, by decide, by decide, by decide⟩ rfl (Nat.le_of_ble_eq_true rfl) (fun r z hz => ?_)
          obtain ⟨hb, hz⟩ := hz; have hz := hz.symm; subst hz
          rcases hb with ⟨rfl, b_55⟩ | ⟨rfl, b_55⟩
          · skip
            refine j_if_eq (tgt := 64) C dX9_gloves_58 (by decide) (fun c => absurd c (by decide)) (fun _ => ?_)
            refine j_bipush (v := -11) C dX9_gloves_61 rfl ?_
            refine hret _ _ _ _ dX9_gloves_63 rfl ?_
            rw [if_pos ⟨nI_0le (n := 4) hi_2 (by decide), b_14, nI_0le (n := 7) hm (by decide)⟩, nI_clamp (show i_2 < 2147483648 by omega), nI_clamp (show mn < 2147483648 by omega)]
            rw [if_neg (fun h => h.1 b_55), if_pos b_55]; exact ⟨rfl, rfl⟩
          · skip
            refine j_if_eq (tgt := 64) C dX9_gloves_58 (by decide) (fun _ => ?_) (fun c => absurd (by decide) c)
            refine j_iconst (v := 0) C dX9_gloves_64 rfl ?_
            refine j_istore (lv' := [(6, _), (5, _), (0, _), (1, _), (2, _), (3, _), (4, _)]) C dX9_gloves_65 (by decide) rfl ?_
            refine j_iload_n C dX9_gloves_67 rfl rfl ?_
            refine j_istore (lv' := [(7, _), (6, _), (5, _), (0, _), (1, _), (2, _), (3, _), (4, _)]) C dX9_gloves_68 (by decide) rfl ?_
            refine j_iconst (v := 0) C dX9_gloves_70 rfl ?_
            refine j_istore (lv' := [(8, _), (7, _), (6, _), (5, _), (0, _), (1, _), (2, _), (3, _), (4, _)]) C dX9_gloves_71 (by decide) rfl ?_
            have L_73 : ∀ k : Nat, ∀ (j n' : Nat) (M' : Nat → Nat → Int32) (at' c : Int32), j ≤ mn → mn < j + k → n' ≤ 6 → M' 0 1 = nI n' → (∀ k, 34 ≤ k → M' k = M k) → (rnX (M (52 + 2 * i_2 + 1)) (M (52 + 2 * i_2) 2) mn p M n 0 = rnX (M (52 + 2 * i_2 + 1)) (M (52 + 2 * i_2) 2) (mn - j) at' M' n' c) → J KK (cW (kG KK) a) 0 0 M' [(0, .ref (a 0)), (1, .int (nI i_2)), (2, .int t), (3, .int p), (4, .int (nI mn)), (5, .ref (a (52 + 2 * i_2))), (6, .int c), (7, .int at'), (8, .int (nI j))] 73 [] := by
              intro k
              induction k with
              | zero => intro j n' M' at' c h1 hk hn' hc' hF hR; omega
              | succ k ih =>
                intro j n' M' at' c h1 hk hn' hc' hF hR
                have e_j : (nI j).toInt = j := nI_toInt (by omega); have e_mn : (nI mn).toInt = mn := nI_toInt (by omega)
                have hsz : M' (52 + 2 * i_2) 2 = M (52 + 2 * i_2) 2 := by rw [hF _ (by omega)]
                have hit : M' (52 + 2 * i_2 + 1) = M (52 + 2 * i_2 + 1) := hF _ (by omega)
                refine j_iload C dX9_gloves_73 rfl ?_
                refine j_iload C dX9_gloves_75 rfl ?_
                refine j_icmp_ge (tgt := 169) C dX9_gloves_77 (by decide) (fun c_5 => ?_) (fun c_5 => ?_)
                · skip
                  have hm0 : mn - j = 0 := by simp only [Int32.lt_iff_toInt_lt, Int32.le_iff_toInt_le, ← Int32.toInt_inj, Int32.reduceToInt, e_j, e_mn] at c_5; omega
                  refine j_iload C dX9_gloves_169 rfl ?_
                  refine hret _ _ _ _ dX9_gloves_171 rfl ?_
                  rw [if_pos ⟨nI_0le (n := 4) hi_2 (by decide), b_14, nI_0le (n := 7) hm (by decide)⟩, nI_clamp (show i_2 < 2147483648 by omega), nI_clamp (show mn < 2147483648 by omega)]
                  rw [if_neg (fun h => c_47'.elim h.2 h.1), if_neg b_55]
                  exact ⟨by rw [hR, hm0]; rfl, by rw [hR, hm0]; rfl⟩
                · skip
                  have hj : j < mn := by simp only [Int32.lt_iff_toInt_lt, Int32.le_iff_toInt_le, ← Int32.toInt_inj, Int32.reduceToInt, e_j, e_mn] at c_5; omega
                  obtain ⟨m9, hm2⟩ : ∃ m9, mn - j = m9 + 1 := ⟨mn - j - 1, by omega⟩
                  refine j_iload C dX9_gloves_80 rfl ?_
                  refine j_bipush (v := 6) C dX9_gloves_82 rfl ?_
                  refine j_icmp_ge (tgt := 169) C dX9_gloves_84 (by decide) (fun c_6 => ?_) (fun c_6 => ?_)
                  · skip
                    exact absurd c_6 (nI_ge (show j < 6 by omega) (by decide))
                  · skip
                    refine j_aload C dX9_gloves_87 rfl ?_
                    refine j_iload C dX9_gloves_89 rfl ?_
                    refine j_iconst (v := 3) C dX9_gloves_91 rfl ?_
                    refine j_calliv C (c_X5_hasAll _ _ _ _ (52 + 2 * i_2) (isRw_h hi_2) _ _ ) dX9_gloves_92 jm_RX9_290 ⟨_, _, _, _, wO (cRw (isRw_h hi_2)), rfl, rfl⟩ ⟨by decide, by decide, by decide, by decide⟩ rfl (Nat.le_of_ble_eq_true rfl) (fun r z hz => ?_)
                    obtain ⟨hb, hz⟩ := hz; have hz := hz.symm; subst hz
                    rcases hb with ⟨rfl, b_92⟩ | ⟨rfl, b_92⟩
                    · skip
                      have hq1 := gl_at (f := M' (52 + 2 * i_2 + 1)) b_92
                      obtain ⟨an, e_an, ha1, ha2, ha3⟩ := hq1
                      refine j_if_ne (tgt := 101) C dX9_gloves_95 (by decide) (fun _ => ?_) (fun c => absurd c (by decide))
                      refine j_aload C dX9_gloves_101 rfl ?_
                      refine j_iload C dX9_gloves_103 rfl ?_
                      refine j_calliv C (c_X5_itemAt _ _ _ _ (52 + 2 * i_2) (isRw_h hi_2) _ ) dX9_gloves_105 jm_RX9_243 ⟨_, _, _, _, wO (cRw (isRw_h hi_2)), rfl, rfl⟩ ⟨by decide, by decide, by decide, by decide⟩ rfl (Nat.le_of_ble_eq_true rfl) (fun r_105 z_105 hz_105 => ?_)
                      obtain ⟨hr, hz⟩ := hz_105; have hz := hz.symm; subst hz; rw [ha1, hit, ← e_an] at hr; have hr := hr.symm; subst hr
                      refine j_istore (lv' := [(9, _), (0, _), (1, _), (2, _), (3, _), (4, _), (5, _), (6, _), (7, _), (8, _)]) C dX9_gloves_108 (by decide) rfl ?_
                      refine j_aload C dX9_gloves_110 rfl ?_
                      refine j_iload C dX9_gloves_112 rfl ?_
                      refine j_iconst (v := 1) C dX9_gloves_114 rfl ?_
                      refine j_iadd C dX9_gloves_115 ?_
                      refine j_calliv C (c_X5_itemAt _ _ _ _ (52 + 2 * i_2) (isRw_h hi_2) _ ) dX9_gloves_116 jm_RX9_243 ⟨_, _, _, _, wO (cRw (isRw_h hi_2)), rfl, rfl⟩ ⟨by decide, by decide, by decide, by decide⟩ rfl (Nat.le_of_ble_eq_true rfl) (fun r_116 z_116 hz_116 => ?_)
                      obtain ⟨hr, hz⟩ := hz_116; have hz := hz.symm; subst hz; rw [ha2, hit, ← e_an] at hr; have hr := hr.symm; subst hr
                      refine j_istore (lv' := [(10, _), (9, _), (0, _), (1, _), (2, _), (3, _), (4, _), (5, _), (6, _), (7, _), (8, _)]) C dX9_gloves_119 (by decide) rfl ?_
                      refine j_aload C dX9_gloves_121 rfl ?_
                      refine j_iload C dX9_gloves_123 rfl ?_
                      refine j_iconst (v := 2) C dX9_gloves_125 rfl ?_
                      refine j_iadd C dX9_gloves_126 ?_
                      refine j_calliv C (c_X5_itemAt _ _ _ _ (52 + 2 * i_2) (isRw_h hi_2) _ ) dX9_gloves_127 jm_RX9_243 ⟨_, _, _, _, wO (cRw (isRw_h hi_2)), rfl, rfl⟩ ⟨by decide, by decide, by decide, by decide⟩ rfl (Nat.le_of_ble_eq_true rfl) (fun r_127 z_127 hz_127 => ?_)
                      obtain ⟨hr, hz⟩ := hz_127; have hz := hz.symm; subst hz; rw [ha3, hit, ← e_an] at hr; have hr := hr.symm; subst hr
                      refine j_istore (lv' := [(11, _), (10, _), (9, _), (0, _), (1, _), (2, _), (3, _), (4, _), (5, _), (6, _), (7, _), (8, _)]) C dX9_gloves_130 (by decide) rfl ?_
                      refine j_iload C dX9_gloves_132 rfl ?_
                      refine j_iload C dX9_gloves_134 rfl ?_
                      refine j_iload C dX9_gloves_136 rfl ?_
                      refine j_callis C (c_X9_isGlove _ _ _ _ _ _ _ ) dX9_gloves_138 jm_RX9_144 ⟨by decide, by decide, by decide, by decide⟩ rfl (Nat.le_of_ble_eq_true rfl) (fun r z hz => ?_)
                      obtain ⟨hb, hz⟩ := hz; have hz := hz.symm; subst hz
                      rcases hb with ⟨rfl, b_138⟩ | ⟨rfl, b_138⟩
                      · skip
                        refine j_if_eq (tgt := 160) C dX9_gloves_141 (by decide) (fun c => absurd c (by decide)) (fun _ => ?_)
                        refine j_aload_n C dX9_gloves_144 rfl rfl ?_
                        refine j_iload C dX9_gloves_145 rfl ?_
                        refine j_iload C dX9_gloves_147 rfl ?_
                        refine j_iload C dX9_gloves_149 rfl ?_
                        refine j_calliv C (c_X9_hangUp _ _ _ _ _ _ _ n' hc' hn') dX9_gloves_151 jm_RX9_148 ⟨_, _, _, _, wO cX0, rfl, rfl⟩ ⟨by decide, by decide, by decide, by decide⟩ rfl (Nat.le_of_ble_eq_true rfl) (fun r z hz => ?_)
                        rcases hz with ⟨rfl, hr_151, hz⟩ | ⟨rfl, hr_151, hz⟩
                        · have hz := hz.symm; subst hz
                          refine j_if_eq (tgt := 160) C dX9_gloves_154 (by decide) (fun c => absurd c (by decide)) (fun _ => ?_)
                          refine j_iinc (lv' := [(6, _), (11, _), (10, _), (9, _), (0, _), (1, _), (2, _), (3, _), (4, _), (5, _), (7, _), (8, _)]) C dX9_gloves_157 rfl rfl (by decide) rfl ?_
                          refine j_iinc (lv' := [(7, _), (6, _), (11, _), (10, _), (9, _), (0, _), (1, _), (2, _), (3, _), (4, _), (5, _), (8, _)]) C dX9_gloves_160 rfl rfl (by decide) rfl ?_
                          refine j_iinc (lv' := [(8, _), (7, _), (6, _), (11, _), (10, _), (9, _), (0, _), (1, _), (2, _), (3, _), (4, _), (5, _)]) (v := nI (j + 1)) C dX9_gloves_163 rfl (j_inc1 j) (by decide) rfl ?_
                          refine j_goto (tgt := 73) C dX9_gloves_166 (by decide) ?_
                          refine j_lv (lv' := [(0, _), (1, _), (2, _), (3, _), (4, _), (5, _), (6, _), (7, _), (8, _)]) rfl ?_
                          have hstep := hR
                          rw [hm2, rnX, if_pos ⟨b_92.1, by rw [← hsz]; exact b_92.2.2.1, by rw [← hsz]; exact b_92.2.2.2.1⟩] at hstep
                          first
                            | (rw [if_neg (fun h => b_138 h.1)] at hstep
                               exact ih (j + 1) n' M' _ _ (by omega) (by omega) hn' hc' hF (by rw [show mn - (j + 1) = m9 by omega]; exact hstep))
                            | (rw [if_neg (fun h => hr_151 h.2)] at hstep
                               exact ih (j + 1) n' M' _ _ (by omega) (by omega) hn' hc' hF (by rw [show mn - (j + 1) = m9 by omega]; exact hstep))
                            | (rw [if_pos ⟨b_138, hr_151⟩] at hstep
                               exact ih (j + 1) (n' + 1) _ _ _ (by omega) (by omega) (by omega) hgX_0 (fun k hk => by rw [hgX_f (by omega) (by omega)]; exact hF k hk) (by rw [show mn - (j + 1) = m9 by omega]; exact hstep))
                        · have hz := hz.symm; subst hz
                          refine j_if_eq (tgt := 160) C dX9_gloves_154 (by decide) (fun _ => ?_) (fun c => absurd (by decide) c)
                          refine j_iinc (lv' := [(7, _), (11, _), (10, _), (9, _), (0, _), (1, _), (2, _), (3, _), (4, _), (5, _), (6, _), (8, _)]) C dX9_gloves_160 rfl rfl (by decide) rfl ?_
                          refine j_iinc (lv' := [(8, _), (7, _), (11, _), (10, _), (9, _), (0, _), (1, _), (2, _), (3, _), (4, _), (5, _), (6, _)]) (v := nI (j + 1)) C dX9_gloves_163 rfl (j_inc1 j) (by decide) rfl ?_
                          refine j_goto (tgt := 73) C dX9_gloves_166 (by decide) ?_
                          refine j_lv (lv' := [(0, _), (1, _), (2, _), (3, _), (4, _), (5, _), (6, _), (7, _), (8, _)]) rfl ?_
                          have hstep := hR
                          rw [hm2, rnX, if_pos ⟨b_92.1, by rw [← hsz]; exact b_92.2.2.1, by rw [← hsz]; exact b_92.2.2.2.1⟩] at hstep
                          first
                            | (rw [if_neg (fun h => b_138 h.1)] at hstep
                               exact ih (j + 1) n' M' _ _ (by omega) (by omega) hn' hc' hF (by rw [show mn - (j + 1) = m9 by omega]; exact hstep))
                            | (rw [if_neg (fun h => hr_151 h.2)] at hstep
                               exact ih (j + 1) n' M' _ _ (by omega) (by omega) hn' hc' hF (by rw [show mn - (j + 1) = m9 by omega]; exact hstep))
                            | (rw [if_pos ⟨b_138, hr_151⟩] at hstep
                               exact ih (j + 1) (n' + 1) _ _ _ (by omega) (by omega) (by omega) hgX_0 (fun k hk => by rw [hgX_f (by omega) (by omega)]; exact hF k hk) (by rw [show mn - (j + 1) = m9 by omega]; exact hstep))
                      · skip
                        refine j_if_eq (tgt := 160) C dX9_gloves_141 (by decide) (fun _ => ?_) (fun c => absurd (by decide) c)
                        refine j_iinc (lv' := [(7, _), (11, _), (10, _), (9, _), (0, _), (1, _), (2, _), (3, _), (4, _), (5, _), (6, _), (8, _)]) C dX9_gloves_160 rfl rfl (by decide) rfl ?_
                        refine j_iinc (lv' := [(8, _), (7, _), (11, _), (10, _), (9, _), (0, _), (1, _), (2, _), (3, _), (4, _), (5, _), (6, _)]) (v := nI (j + 1)) C dX9_gloves_163 rfl (j_inc1 j) (by decide) rfl ?_
                        refine j_goto (tgt := 73) C dX9_gloves_166 (by decide) ?_
                        refine j_lv (lv' := [(0, _), (1, _), (2, _), (3, _), (4, _), (5, _), (6, _), (7, _), (8, _)]) rfl ?_
                        have hstep := hR
                        rw [hm2, rnX, if_pos ⟨b_92.1, by rw [← hsz]; exact b_92.2.2.1, by rw [← hsz]; exact b_92.2.2.2.1⟩] at hstep
                        first
                          | (rw [if_neg (fun h => b_138 h.1)] at hstep
                             exact ih (j + 1) n' M' _ _ (by omega) (by omega) hn' hc' hF (by rw [show mn - (j + 1) = m9 by omega]; exact hstep))
                          | (rw [if_neg (fun h => hr_151 h.2)] at hstep
                             exact ih (j + 1) n' M' _ _ (by omega) (by omega) hn' hc' hF (by rw [show mn - (j + 1) = m9 by omega]; exact hstep))
                          | (rw [if_pos ⟨b_138, hr_151⟩] at hstep
                             exact ih (j + 1) (n' + 1) _ _ _ (by omega) (by omega) (by omega) hgX_0 (fun k hk => by rw [hgX_f (by omega) (by omega)]; exact hF k hk) (by rw [show mn - (j + 1) = m9 by omega]; exact hstep))
                    · skip
                      refine j_if_ne (tgt := 101) C dX9_gloves_95 (by decide) (fun c => absurd (by decide) c) (fun _ => ?_)
                      refine j_bipush (v := -12) C dX9_gloves_98 rfl ?_
                      refine hret _ _ _ _ dX9_gloves_100 rfl ?_
                      rw [if_pos ⟨nI_0le (n := 4) hi_2 (by decide), b_14, nI_0le (n := 7) hm (by decide)⟩, nI_clamp (show i_2 < 2147483648 by omega), nI_clamp (show mn < 2147483648 by omega)]
                      rw [if_neg (fun h => c_47'.elim h.2 h.1), if_neg b_55]
                      exact ⟨by rw [hR, hm2, rnX, if_neg (fun h => b_92 ⟨h.1, by decide, by rw [hsz]; exact h.2.1, by rw [hsz]; exact h.2.2, by rw [hsz]; exact hs40⟩)], by rw [hR, hm2, rnX, if_neg (fun h => b_92 ⟨h.1, by decide, by rw [hsz]; exact h.2.1, by rw [hsz]; exact h.2.2, by rw [hsz]; exact hs40⟩)]⟩
            refine j_lv (lv' := [(0, _), (1, _), (2, _), (3, _), (4, _), (5, _), (6, _), (7, _), (8, _)]) rfl ?_
            exact L_73 (mn + 1) 0 n M p 0 (by omega) (by omega) hn6 hn (fun _ _ => rfl) rfl
        · skip
          refine j_if_ne (tgt := 53) C dX9_gloves_38 (by decide) (fun c => absurd (by decide) c) (fun _ => ?_)
          refine j_aload C dX9_gloves_41 rfl ?_
          refine j_getN C dX9_gloves_43 jfn_RX9_287 (wO (cRw (isRw_h hi_2))) rfl ?_
          refine j_iload_n C dX9_gloves_46 rfl rfl ?_
          refine j_icmp_eq (tgt := 53) C dX9_gloves_47 (by decide) (fun c_47 => ?_) (fun c_47 => ?_)
          · skip
            have c_47' : M (52 + 2 * i_2) 1 = t ∨ M (52 + 2 * i_2) 1 = -1 := Or.inl c_47
            refine j_aload C dX9_gloves_53 rfl ?_
            refine j_calliv C (c_X5_isMissing _ _ _ _ (52 + 2 * i_2) (isRw_h hi_2) ) dX9_gloves_55 jm_RX9_230 ⟨_, _, _, _, wO (cRw (isRw_h hi_2)), rfl, rfl⟩ ⟨by decide, by decide, by decide, by decide⟩ rfl (Nat.le_of_ble_eq_true rfl) (fun r z hz => ?_)
            obtain ⟨hb, hz⟩ := hz; have hz := hz.symm; subst hz
            rcases hb with ⟨rfl, b_55⟩ | ⟨rfl, b_55⟩
            · skip
              refine j_if_eq (tgt := 64) C dX9_gloves_58 (by decide) (fun c => absurd c (by decide)) (fun _ => ?_)
              refine j_bipush (v := -11) C dX9_gloves_61 rfl ?_
              refine hret _ _ _ _ dX9_gloves_63 rfl ?_
              rw [if_pos ⟨nI_0le (n := 4) hi_2 (by decide), b_14, nI_0le (n := 7) hm (by decide)⟩, nI_clamp (show i_2 < 2147483648 by omega), nI_clamp (show mn < 2147483648 by omega)]
              rw [if_neg (fun h => h.1 b_55), if_pos b_55]; exact ⟨rfl, rfl⟩
            · skip
              refine j_if_eq (tgt := 64) C dX9_gloves_58 (by decide) (fun _ => ?_) (fun c => absurd (by decide) c)
              refine j_iconst (v := 0) C dX9_gloves_64 rfl ?_
              refine j_istore (lv' := [(6, _), (5, _), (0, _), (1, _), (2, _), (3, _), (4, _)]) C dX9_gloves_65 (by decide) rfl ?_
              refine j_iload_n C dX9_gloves_67 rfl rfl ?_
              refine j_istore (lv' := [(7, _), (6, _), (5, _), (0, _), (1, _), (2, _), (3, _), (4, _)]) C dX9_gloves_68 (by decide) rfl ?_
              refine j_iconst (v := 0) C dX9_gloves_70 rfl ?_
              refine j_istore (lv' := [(8, _), (7, _), (6, _), (5, _), (0, _), (1, _), (2, _), (3, _), (4, _)]) C dX9_gloves_71 (by decide) rfl ?_
              have L_73 : ∀ k : Nat, ∀ (j n' : Nat) (M' : Nat → Nat → Int32) (at' c : Int32), j ≤ mn → mn < j + k → n' ≤ 6 → M' 0 1 = nI n' → (∀ k, 34 ≤ k → M' k = M k) → (rnX (M (52 + 2 * i_2 + 1)) (M (52 + 2 * i_2) 2) mn p M n 0 = rnX (M (52 + 2 * i_2 + 1)) (M (52 + 2 * i_2) 2) (mn - j) at' M' n' c) → J KK (cW (kG KK) a) 0 0 M' [(0, .ref (a 0)), (1, .int (nI i_2)), (2, .int t), (3, .int p), (4, .int (nI mn)), (5, .ref (a (52 + 2 * i_2))), (6, .int c), (7, .int at'), (8, .int (nI j))] 73 [] := by
                intro k
                induction k with
                | zero => intro j n' M' at' c h1 hk hn' hc' hF hR; omega
                | succ k ih =>
                  intro j n' M' at' c h1 hk hn' hc' hF hR
                  have e_j : (nI j).toInt = j := nI_toInt (by omega); have e_mn : (nI mn).toInt = mn := nI_toInt (by omega)
                  have hsz : M' (52 + 2 * i_2) 2 = M (52 + 2 * i_2) 2 := by rw [hF _ (by omega)]
                  have hit : M' (52 + 2 * i_2 + 1) = M (52 + 2 * i_2 + 1) := hF _ (by omega)
                  refine j_iload C dX9_gloves_73 rfl ?_
                  refine j_iload C dX9_gloves_75 rfl ?_
                  refine j_icmp_ge (tgt := 169) C dX9_gloves_77 (by decide) (fun c_18 => ?_) (fun c_18 => ?_)
                  · skip
                    have hm0 : mn - j = 0 := by simp only [Int32.lt_iff_toInt_lt, Int32.le_iff_toInt_le, ← Int32.toInt_inj, Int32.reduceToInt, e_j, e_mn] at c_18; omega
                    refine j_iload C dX9_gloves_169 rfl ?_
                    refine hret _ _ _ _ dX9_gloves_171 rfl ?_
                    rw [if_pos ⟨nI_0le (n := 4) hi_2 (by decide), b_14, nI_0le (n := 7) hm (by decide)⟩, nI_clamp (show i_2 < 2147483648 by omega), nI_clamp (show mn < 2147483648 by omega)]
                    rw [if_neg (fun h => c_47'.elim h.2 h.1), if_neg b_55]
                    exact ⟨by rw [hR, hm0]; rfl, by rw [hR, hm0]; rfl⟩
                  · skip
                    have hj : j < mn := by simp only [Int32.lt_iff_toInt_lt, Int32.le_iff_toInt_le, ← Int32.toInt_inj, Int32.reduceToInt, e_j, e_mn] at c_18; omega
                    obtain ⟨m9, hm2⟩ : ∃ m9, mn - j = m9 + 1 := ⟨mn - j - 1, by omega⟩
                    refine j_iload C dX9_gloves_80 rfl ?_
                    refine j_bipush (v := 6) C dX9_gloves_82 rfl ?_
                    refine j_icmp_ge (tgt := 169) C dX9_gloves_84 (by decide) (fun c_19 => ?_) (fun c_19 => ?_)
                    · skip
                      exact absurd c_19 (nI_ge (show j < 6 by omega) (by decide))
                    · skip
                      refine j_aload C dX9_gloves_87 rfl ?_
                      refine j_iload C dX9_gloves_89 rfl ?_
                      refine j_iconst (v := 3) C dX9_gloves_91 rfl ?_
                      refine j_calliv C (c_X5_hasAll _ _ _ _ (52 + 2 * i_2) (isRw_h hi_2) _ _ ) dX9_gloves_92 jm_RX9_290 ⟨_, _, _, _, wO (cRw (isRw_h hi_2)), rfl, rfl⟩ ⟨by decide, by decide, by decide, by decide⟩ rfl (Nat.le_of_ble_eq_true rfl) (fun r z hz => ?_)
                      obtain ⟨hb, hz⟩ := hz; have hz := hz.symm; subst hz
                      rcases hb with ⟨rfl, b_92⟩ | ⟨rfl, b_92⟩
                      · skip
                        have hq1 := gl_at (f := M' (52 + 2 * i_2 + 1)) b_92
                        obtain ⟨an, e_an, ha1, ha2, ha3⟩ := hq1
                        refine j_if_ne (tgt := 101) C dX9_gloves_95 (by decide) (fun _ => ?_) (fun c => absurd c (by decide))
                        refine j_aload C dX9_gloves_101 rfl ?_
                        refine j_iload C dX9_gloves_103 rfl ?_
                        refine j_calliv C (c_X5_itemAt _ _ _ _ (52 + 2 * i_2) (isRw_h hi_2) _ ) dX9_gloves_105 jm_RX9_243 ⟨_, _, _, _, wO (cRw (isRw_h hi_2)), rfl, rfl⟩ ⟨by decide, by decide, by decide, by decide⟩ rfl (Nat.le_of_ble_eq_true rfl) (fun r_105 z_105 hz_105 => ?_)
                        obtain ⟨hr, hz⟩ := hz_105; have hz := hz.symm; subst hz; rw [ha1, hit, ← e_an] at hr; have hr := hr.symm; subst hr
                        refine j_istore (lv' := [(9, _), (0, _), (1, _), (2, _), (3, _), (4, _), (5, _), (6, _), (7, _), (8, _)]) C dX9_gloves_108 (by decide) rfl ?_
                        refine j_aload C dX9_gloves_110 rfl ?_
                        refine j_iload C dX9_gloves_112 rfl ?_
                        refine j_iconst (v := 1) C dX9_gloves_114 rfl ?_
                        refine j_iadd C dX9_gloves_115 ?_
                        refine j_calliv C (c_X5_itemAt _ _ _ _ (52 + 2 * i_2) (isRw_h hi_2) _ ) dX9_gloves_116 jm_RX9_243 ⟨_, _, _, _, wO (cRw (isRw_h hi_2)), rfl, rfl⟩ ⟨by decide, by decide, by decide, by decide⟩ rfl (Nat.le_of_ble_eq_true rfl) (fun r_116 z_116 hz_116 => ?_)
                        obtain ⟨hr, hz⟩ := hz_116; have hz := hz.symm; subst hz; rw [ha2, hit, ← e_an] at hr; have hr := hr.symm; subst hr
                        refine j_istore (lv' := [(10, _), (9, _), (0, _), (1, _), (2, _), (3, _), (4, _), (5, _), (6, _), (7, _), (8, _)]) C dX9_gloves_119 (by decide) rfl ?_
                        refine j_aload C dX9_gloves_121 rfl ?_
                        refine j_iload C dX9_gloves_123 rfl ?_
                        refine j_iconst (v := 2) C dX9_gloves_125 rfl ?_
                        refine j_iadd C dX9_gloves_126 ?_
                        refine j_calliv C (c_X5_itemAt _ _ _ _ (52 + 2 * i_2) (isRw_h hi_2) _ ) dX9_gloves_127 jm_RX9_243 ⟨_, _, _, _, wO (cRw (isRw_h hi_2)), rfl, rfl⟩ ⟨by decide, by decide, by decide, by decide⟩ rfl (Nat.le_of_ble_eq_true rfl) (fun r_127 z_127 hz_127 => ?_)
                        obtain ⟨hr, hz⟩ := hz_127; have hz := hz.symm; subst hz; rw [ha3, hit, ← e_an] at hr; have hr := hr.symm; subst hr
                        refine j_istore (lv' := [(11, _), (10, _), (9, _), (0, _), (1, _), (2, _), (3, _), (4, _), (5, _), (6, _), (7, _), (8, _)]) C dX9_gloves_130 (by decide) rfl ?_
                        refine j_iload C dX9_gloves_132 rfl ?_
                        refine j_iload C dX9_gloves_134 rfl ?_
                        refine j_iload C dX9_gloves_136 rfl ?_
                        refine j_callis C (c_X9_isGlove _ _ _ _ _ _ _ ) dX9_gloves_138 jm_RX9_144 ⟨by decide, by decide, by decide, by decide⟩ rfl (Nat.le_of_ble_eq_true rfl) (fun r z hz => ?_)
                        obtain ⟨hb, hz⟩ := hz; have hz := hz.symm; subst hz
                        rcases hb with ⟨rfl, b_138⟩ | ⟨rfl, b_138⟩
                        · skip
                          refine j_if_eq (tgt := 160) C dX9_gloves_141 (by decide) (fun c => absurd c (by decide)) (fun _ => ?_)
                          refine j_aload_n C dX9_gloves_144 rfl rfl ?_
                          refine j_iload C dX9_gloves_145 rfl ?_
                          refine j_iload C dX9_gloves_147 rfl ?_
                          refine j_iload C dX9_gloves_149 rfl ?_
                          refine j_calliv C (c_X9_hangUp _ _ _ _ _ _ _ n' hc' hn') dX9_gloves_151 jm_RX9_148 ⟨_, _, _, _, wO cX0, rfl, rfl⟩ ⟨by decide, by decide, by decide, by decide⟩ rfl (Nat.le_of_ble_eq_true rfl) (fun r z hz => ?_)
                          rcases hz with ⟨rfl, hr_151, hz⟩ | ⟨rfl, hr_151, hz⟩
                          · have hz := hz.symm; subst hz
                            refine j_if_eq (tgt := 160) C dX9_gloves_154 (by decide) (fun c => absurd c (by decide)) (fun _ => ?_)
                            refine j_iinc (lv' := [(6, _), (11, _), (10, _), (9, _), (0, _), (1, _), (2, _), (3, _), (4, _), (5, _), (7, _), (8, _)]) C dX9_gloves_157 rfl rfl (by decide) rfl ?_
                            refine j_iinc (lv' := [(7, _), (6, _), (11, _), (10, _), (9, _), (0, _), (1, _), (2, _), (3, _), (4, _), (5, _), (8, _)]) C dX9_gloves_160 rfl rfl (by decide) rfl ?_
                            refine j_iinc (lv' := [(8, _), (7, _), (6, _), (11, _), (10, _), (9, _), (0, _), (1, _), (2, _), (3, _), (4, _), (5, _)]) (v := nI (j + 1)) C dX9_gloves_163 rfl (j_inc1 j) (by decide) rfl ?_
                            refine j_goto (tgt := 73) C dX9_gloves_166 (by decide) ?_
                            refine j_lv (lv' := [(0, _), (1, _), (2, _), (3, _), (4, _), (5, _), (6, _), (7, _), (8, _)]) rfl ?_
                            have hstep := hR
                            rw [hm2, rnX, if_pos ⟨b_92.1, by rw [← hsz]; exact b_92.2.2.1, by rw [← hsz]; exact b_92.2.2.2.1⟩] at hstep
                            first
                              | (rw [if_neg (fun h => b_138 h.1)] at hstep
                                 exact ih (j + 1) n' M' _ _ (by omega) (by omega) hn' hc' hF (by rw [show mn - (j + 1) = m9 by omega]; exact hstep))
                              | (rw [if_neg (fun h => hr_151 h.2)] at hstep
                                 exact ih (j + 1) n' M' _ _ (by omega) (by omega) hn' hc' hF (by rw [show mn - (j + 1) = m9 by omega]; exact hstep))
                              | (rw [if_pos ⟨b_138, hr_151⟩] at hstep
                                 exact ih (j + 1) (n' + 1) _ _ _ (by omega) (by omega) (by omega) hgX_0 (fun k hk => by rw [hgX_f (by omega) (by omega)]; exact hF k hk) (by rw [show mn - (j + 1) = m9 by omega]; exact hstep))
                          · have hz := hz.symm; subst hz
                            refine j_if_eq (tgt := 160) C dX9_gloves_154 (by decide) (fun _ => ?_) (fun c => absurd (by decide) c)
                            refine j_iinc (lv' := [(7, _), (11, _), (10, _), (9, _), (0, _), (1, _), (2, _), (3, _), (4, _), (5, _), (6, _), (8, _)]) C dX9_gloves_160 rfl rfl (by decide) rfl ?_
                            refine j_iinc (lv' := [(8, _), (7, _), (11, _), (10, _), (9, _), (0, _), (1, _), (2, _), (3, _), (4, _), (5, _), (6, _)]) (v := nI (j + 1)) C dX9_gloves_163 rfl (j_inc1 j) (by decide) rfl ?_
                            refine j_goto (tgt := 73) C dX9_gloves_166 (by decide) ?_
                            refine j_lv (lv' := [(0, _), (1, _), (2, _), (3, _), (4, _), (5, _), (6, _), (7, _), (8, _)]) rfl ?_
                            have hstep := hR
                            rw [hm2, rnX, if_pos ⟨b_92.1, by rw [← hsz]; exact b_92.2.2.1, by rw [← hsz]; exact b_92.2.2.2.1⟩] at hstep
                            first
                              | (rw [if_neg (fun h => b_138 h.1)] at hstep
                                 exact ih (j + 1) n' M' _ _ (by omega) (by omega) hn' hc' hF (by rw [show mn - (j + 1) = m9 by omega]; exact hstep))
                              | (rw [if_neg (fun h => hr_151 h.2)] at hstep
                                 exact ih (j + 1) n' M' _ _ (by omega) (by omega) hn' hc' hF (by rw [show mn - (j + 1) = m9 by omega]; exact hstep))
                              | (rw [if_pos ⟨b_138, hr_151⟩] at hstep
                                 exact ih (j + 1) (n' + 1) _ _ _ (by omega) (by omega) (by omega) hgX_0 (fun k hk => by rw [hgX_f (by omega) (by omega)]; exact hF k hk) (by rw [show mn - (j + 1) = m9 by omega]; exact hstep))
                        · skip
                          refine j_if_eq (tgt := 160) C dX9_gloves_141 (by decide) (fun _ => ?_) (fun c => absurd (by decide) c)
                          refine j_iinc (lv' := [(7, _), (11, _), (10, _), (9, _), (0, _), (1, _), (2, _), (3, _), (4, _), (5, _), (6, _), (8, _)]) C dX9_gloves_160 rfl rfl (by decide) rfl ?_
                          refine j_iinc (lv' := [(8, _), (7, _), (11, _), (10, _), (9, _), (0, _), (1, _), (2, _), (3, _), (4, _), (5, _), (6, _)]) (v := nI (j + 1)) C dX9_gloves_163 rfl (j_inc1 j) (by decide) rfl ?_
                          refine j_goto (tgt := 73) C dX9_gloves_166 (by decide) ?_
                          refine j_lv (lv' := [(0, _), (1, _), (2, _), (3, _), (4, _), (5, _), (6, _), (7, _), (8, _)]) rfl ?_
                          have hstep := hR
                          rw [hm2, rnX, if_pos ⟨b_92.1, by rw [← hsz]; exact b_92.2.2.1, by rw [← hsz]; exact b_92.2.2.2.1⟩] at hstep
                          first
                            | (rw [if_neg (fun h => b_138 h.1)] at hstep
                               exact ih (j + 1) n' M' _ _ (by omega) (by omega) hn' hc' hF (by rw [show mn - (j + 1) = m9 by omega]; exact hstep))
                            | (rw [if_neg (fun h => hr_151 h.2)] at hstep
                               exact ih (j + 1) n' M' _ _ (by omega) (by omega) hn' hc' hF (by rw [show mn - (j + 1) = m9 by omega]; exact hstep))
                            | (rw [if_pos ⟨b_138, hr_151⟩] at hstep
                               exact ih (j + 1) (n' + 1) _ _ _ (by omega) (by omega) (by omega) hgX_0 (fun k hk => by rw [hgX_f (by omega) (by omega)]; exact hF k hk) (by rw [show mn - (j + 1) = m9 by omega]; exact hstep))
                      · skip
                        refine j_if_ne (tgt := 101) C dX9_gloves_95 (by decide) (fun c => absurd (by decide) c) (fun _ => ?_)
                        refine j_bipush (v := -12) C dX9_gloves_98 rfl ?_
                        refine hret _ _ _ _ dX9_gloves_100 rfl ?_
                        rw [if_pos ⟨nI_0le (n := 4) hi_2 (by decide), b_14, nI_0le (n := 7) hm (by decide)⟩, nI_clamp (show i_2 < 2147483648 by omega), nI_clamp (show mn < 2147483648 by omega)]
                        rw [if_neg (fun h => c_47'.elim h.2 h.1), if_neg b_55]
                        exact ⟨by rw [hR, hm2, rnX, if_neg (fun h => b_92 ⟨h.1, by decide, by rw [hsz]; exact h.2.1, by rw [hsz]; exact h.2.2, by rw [hsz]; exact hs40⟩)], by rw [hR, hm2, rnX, if_neg (fun h => b_92 ⟨h.1, by decide, by rw [hsz]; exact h.2.1, by rw [hsz]; exact h.2.2, by rw [hsz]; exact hs40⟩)]⟩
              refine j_lv (lv' := [(0, _), (1, _), (2, _), (3, _), (4, _), (5, _), (6, _), (7, _), (8, _)]) rfl ?_
              exact L_73 (mn + 1) 0 n M p 0 (by omega) (by omega) hn6 hn (fun _ _ => rfl) rfl
          · skip
            refine j_bipush (v := -13) C dX9_gloves_50 rfl ?_
            refine hret _ _ _ _ dX9_gloves_52 rfl ?_
            rw [if_pos ⟨nI_0le (n := 4) hi_2 (by decide), b_14, nI_0le (n := 7) hm (by decide)⟩, nI_clamp (show i_2 < 2147483648 by omega), nI_clamp (show mn < 2147483648 by omega)]
            rw [if_pos ⟨b_35, c_47⟩]; exact ⟨rfl, rfl⟩
      · skip
        refine j_if_ne (tgt := 33) C dX9_gloves_27 (by decide) (fun c => absurd (by decide) c) (fun _ => ?_)
        refine j_bipush (v := -2) C dX9_gloves_30 rfl ?_
        refine hret _ _ _ _ dX9_gloves_32 rfl ?_
        first | (rw [if_neg (fun h => hno_2 h.1)]; exact ⟨rfl, rfl⟩) | (rw [if_neg (fun h => b_14 h.2.1)]; exact ⟨rfl, rfl⟩) | (rw [if_neg (fun h => b_24 h.2.2)]; exact ⟨rfl, rfl⟩)
    · skip
      refine j_if_eq (tgt := 30) C dX9_gloves_17 (by decide) (fun _ => ?_) (fun c => absurd (by decide) c)
      refine j_bipush (v := -2) C dX9_gloves_30 rfl ?_
      refine hret _ _ _ _ dX9_gloves_32 rfl ?_
      first | (rw [if_neg (fun h => hno_2 h.1)]; exact ⟨rfl, rfl⟩) | (rw [if_neg (fun h => b_14 h.2.1)]; exact ⟨rfl, rfl⟩) | (rw [if_neg (fun h => b_24 h.2.2)]; exact ⟨rfl, rfl⟩)
  · skip
    refine j_astoreN (lv' := [(5, _), (0, _), (1, _), (2, _), (3, _), (4, _)]) C dX9_gloves_5 (by decide) rfl ?_
    refine j_aloadN C dX9_gloves_7 rfl ?_
    refine j_ifnullN (tgt := 30) C dX9_gloves_9 (by decide) ?_
    refine j_bipush (v := -2) C dX9_gloves_30 rfl ?_
    refine hret _ _ _ _ dX9_gloves_32 rfl ?_
    first | (rw [if_neg (fun h => hno_2 h.1)]; exact ⟨rfl, rfl⟩) | (rw [if_neg (fun h => b_14 h.2.1)]; exact ⟨rfl, rfl⟩) | (rw [if_neg (fun h => b_24 h.2.2)]; exact ⟨rfl, rfl⟩)
set_option maxHeartbeats 4000000 in
set_option maxRecDepth 100000 in
theorem c_X2_keep (l : Launch) (g : jG) (a : Nat → Nat) (M : (Nat → Nat → Int32)) (Wk : Nat) (hWk : isWk Wk) (ru : Int32) (c : Int32)  : Cv l g yX2_keep cX2_keep 4 1 23 0 0 (cW g a) [.ref (a 11), .ref (a Wk), .int ru, .int c] M (fun z => z = uM (uM (uM (uM (uM (uM M 13 0 (M Wk 0)) 13 1 (M Wk 1)) 13 2 (M Wk 2)) 11 3 ru) 11 2 c) 11 4 1) := by
  refine mk_v (by decide +kernel) rfl (fun KK hKl hKg C hin hret => ?_)
  subst hKl; subst hKg
  refine j_lv (lv' := [(0, _), (1, _), (2, _), (3, _)]) rfl ?_
  refine j_aload_n C dX2_keep_0 rfl rfl ?_
  refine j_get C dX2_keep_1 jf_RX2_20 (wO cIm) rfl ?_
  refine j_aload_n C dX2_keep_4 rfl rfl ?_
  refine j_get C dX2_keep_5 jf_RX2_25 (wO (cWk hWk)) rfl ?_
  refine j_aload_n C dX2_keep_8 rfl rfl ?_
  refine j_get C dX2_keep_9 jf_RX2_29 (wO (cWk hWk)) rfl ?_
  refine j_aload_n C dX2_keep_12 rfl rfl ?_
  refine j_get C dX2_keep_13 jf_RX2_32 (wO (cWk hWk)) rfl ?_
  refine j_callvv C (c_X8_become _ _ _ _ 13 (Or.inr (Or.inl rfl)) _ _ _ ) dX2_keep_16 jm_RX2_35 ⟨_, _, _, _, wO (cWk (Or.inr (Or.inl rfl))), rfl, rfl⟩ ⟨by decide, by decide, by decide, by decide⟩ rfl (Nat.le_of_ble_eq_true rfl) (fun z_16 hz_16 => ?_)
  have hz_16 := hz_16.symm; subst hz_16
  refine j_aload_n C dX2_keep_19 rfl rfl ?_
  refine j_iload_n C dX2_keep_20 rfl rfl ?_
  refine j_put C dX2_keep_21 jp_RX2_39 (wO cIm) (Nat.le_of_ble_eq_true rfl) rfl rfl (sO cIm 3 _ rfl) ?_
  refine j_aload_n C dX2_keep_24 rfl rfl ?_
  refine j_iload_n C dX2_keep_25 rfl rfl ?_
  refine j_put C dX2_keep_26 jp_RX2_42 (wO cIm) (Nat.le_of_ble_eq_true rfl) rfl rfl (sO cIm 2 _ rfl) ?_
  refine j_aload_n C dX2_keep_29 rfl rfl ?_
  refine j_iconst (v := 1) C dX2_keep_30 rfl ?_
  refine j_put C dX2_keep_31 jp_RX2_45 (wO cIm) (Nat.le_of_ble_eq_true rfl) rfl rfl (sO cIm 4 _ rfl) ?_
  refine hret _ _ _ dX2_keep_34 ?_
  exact rfl
set_option maxHeartbeats 4000000 in
set_option maxRecDepth 100000 in
theorem c_X2_keptAt (l : Launch) (g : jG) (a : Nat → Nat) (M : (Nat → Nat → Int32)) (p : Int32)  : Cq l g yX2_keptAt cX2_keptAt 2 (.object "OneGlove$Glove") 0 0 0 0 (cW g a) [.ref (a 11), .int p] M (fun r z => ((∃ i, i < 6 ∧ p = nI i ∧ r = some (a (14 + i))) ∨ (¬ (0 ≤ p ∧ p < 6) ∧ r = none)) ∧ z = M) := by
  refine mk_q (by decide +kernel) (Or.inl ⟨_, rfl⟩) rfl (fun KK hKl hKg C hin hret => ?_)
  subst hKl; subst hKg
  refine j_lv (lv' := [(0, _), (1, _)]) rfl ?_
  refine j_iload_n C dX2_keptAt_0 rfl rfl ?_
  refine j_if_lt (tgt := 22) C dX2_keptAt_1 (by decide) (fun c_1 => ?_) (fun c_1 => ?_)
  · skip
    refine j_null C dX2_keptAt_22 ?_
    refine hret _ _ none _ dX2_keptAt_23 ?_
    exact ⟨Or.inr ⟨by simp only [Int32.lt_iff_toInt_lt, Int32.le_iff_toInt_le, ← Int32.toInt_inj, Int32.reduceToInt] at c_1 ⊢; omega, rfl⟩, rfl⟩
  · skip
    refine j_iload_n C dX2_keptAt_4 rfl rfl ?_
    refine j_aload_n C dX2_keptAt_5 rfl rfl ?_
    refine j_get C dX2_keptAt_6 jf_RX2_11 (wO cIm) rfl ?_
    refine j_alen (v := 6) C dX2_keptAt_9 (wR cR12) gty_2 rfl ?_
    refine j_icmp_ge (tgt := 22) C dX2_keptAt_10 (by decide) (fun c_2 => ?_) (fun c_2 => ?_)
    · skip
      refine j_null C dX2_keptAt_22 ?_
      refine hret _ _ none _ dX2_keptAt_23 ?_
      exact ⟨Or.inr ⟨by simp only [Int32.lt_iff_toInt_lt, Int32.le_iff_toInt_le, ← Int32.toInt_inj, Int32.reduceToInt] at c_1 c_2 ⊢; omega, rfl⟩, rfl⟩
    · skip
      refine j_aload_n C dX2_keptAt_13 rfl rfl ?_
      refine j_get C dX2_keptAt_14 jf_RX2_11 (wO cIm) rfl ?_
      refine j_iload_n C dX2_keptAt_17 rfl rfl ?_
      refine j_aald C (p.toNatClampNeg) dX2_keptAt_18 (wR cR12) gty_2 (cl_nI (by simp only [Int32.lt_iff_toInt_lt, Int32.le_iff_toInt_le, ← Int32.toInt_inj, Int32.reduceToInt] at c_1 ⊢; omega)) (cl_lt (m := 6) (by simp only [Int32.lt_iff_toInt_lt, Int32.le_iff_toInt_le, ← Int32.toInt_inj, Int32.reduceToInt] at c_1 ⊢; omega) (by simp only [Int32.lt_iff_toInt_lt, Int32.le_iff_toInt_le, ← Int32.toInt_inj, Int32.reduceToInt] at c_2 ⊢; omega) rfl) (by decide) ?_
      refine j_goto (tgt := 23) C dX2_keptAt_19 (by decide) ?_
      refine hret _ _ (some _) _ dX2_keptAt_23 ?_
      exact ⟨Or.inl ⟨_, cl_lt (m := 6) (by simp only [Int32.lt_iff_toInt_lt, Int32.le_iff_toInt_le, ← Int32.toInt_inj, Int32.reduceToInt] at c_1 ⊢; omega) (by simp only [Int32.lt_iff_toInt_lt, Int32.le_iff_toInt_le, ← Int32.toInt_inj, Int32.reduceToInt] at c_2 ⊢; omega) rfl, cl_nI (by simp only [Int32.lt_iff_toInt_lt, Int32.le_iff_toInt_le, ← Int32.toInt_inj, Int32.reduceToInt] at c_1 ⊢; omega), rfl⟩, rfl⟩
set_option maxHeartbeats 4000000 in
set_option maxRecDepth 100000 in
theorem c_X9_image (l : Launch) (g : jG) (a : Nat → Nat) (M : (Nat → Nat → Int32))  (n : Nat) (hn : M 0 1 = nI n) (hn6 : n ≤ 6) : Ci l g yX9_image cX9_image 4 .int 2 46 0 0 (cW g a) [.ref (a 0)] M (fun r z => r = nI n ∧ z 11 2 = nI n ∧ z 11 3 = M 0 5 ∧ z 11 4 = 1 ∧ (∀ j, j < 3 → z 13 j = M 2 j) ∧ (∀ i, i < n → ∀ j, j < 5 → z (14 + i) j = M (28 + i) j) ∧ ∀ k, k ≠ 11 → (k < 13 ∨ 20 ≤ k) → z k = M k) := by
  refine mk_i (by decide +kernel) rfl (fun KK hKl hKg C hin hret => ?_)
  subst hKl; subst hKg
  refine j_lv (lv' := [(0, _)]) rfl ?_
  refine j_aload_n C dX9_image_0 rfl rfl ?_
  refine j_get C dX9_image_1 jf_RX9_44 (wO cX0) rfl ?_
  refine j_aload_n C dX9_image_4 rfl rfl ?_
  refine j_get C dX9_image_5 jf_RX9_18 (wO cX0) rfl ?_
  refine j_aload_n C dX9_image_8 rfl rfl ?_
  refine j_get C dX9_image_9 jf_RX9_170 (wO cX0) rfl ?_
  refine j_aload_n C dX9_image_12 rfl rfl ?_
  refine j_get C dX9_image_13 jf_RX9_151 (wO cX0) rfl ?_
  refine j_callvv C (c_X2_keep _ _ _ _ 2 (Or.inl rfl) _ _ ) dX9_image_16 jm_RX9_266 ⟨_, _, _, _, wO cIm, rfl, rfl⟩ ⟨by decide, by decide, by decide, by decide⟩ rfl (Nat.le_of_ble_eq_true rfl) (fun z_16 hz_16 => ?_)
  have hz_16 := hz_16.symm; subst hz_16
  refine j_iconst (v := 0) C dX9_image_19 rfl ?_
  refine j_istore_n (lv' := [(1, _), (0, _)]) C dX9_image_20 rfl (by decide) rfl ?_
  have L_21 : ∀ k : Nat, ∀ (i : Nat) (M' : Nat → Nat → Int32), i ≤ 6 → 6 < i + k → (M' 11 2 = nI n ∧ M' 11 3 = M 0 5 ∧ M' 11 4 = 1 ∧ ∀ j, j < 3 → M' 13 j = M 2 j) → (∀ e, e < i → e < n → ∀ j, j < 5 → M' (14 + e) j = M (28 + e) j) → (∀ k, k ≠ 11 → (k < 13 ∨ 20 ≤ k) → M' k = M k) → J KK (cW (kG KK) a) 0 0 M' [(0, .ref (a 0)), (1, .int (nI i))] 21 [] := by
    intro k
    induction k with
    | zero => intro i M' h1 hk hI hG hF; omega
    | succ k ih =>
      intro i M' h1 hk hI hG hF
      have e_i : (nI i).toInt = i := nI_toInt (by omega)
      have hc' : M' 0 1 = nI n := by rw [hF 0 (by decide) (by decide)]; exact hn
      refine j_iload_n C dX9_image_21 rfl rfl ?_
      refine j_bipush (v := 6) C dX9_image_22 rfl ?_
      refine j_icmp_ge (tgt := 61) C dX9_image_24 (by decide) (fun c_1 => ?_) (fun c_1 => ?_)
      · skip
        have h6 : i = 6 := by simp only [Int32.lt_iff_toInt_lt, Int32.le_iff_toInt_le, ← Int32.toInt_inj, Int32.reduceToInt, e_i] at c_1; omega
        subst h6
        refine j_aload_n C dX9_image_61 rfl rfl ?_
        refine j_get C dX9_image_62 jf_RX9_151 (wO cX0) rfl ?_
        refine hret _ _ _ _ dX9_image_65 rfl ?_
        exact ⟨hc', hI.1, hI.2.1, hI.2.2.1, hI.2.2.2, fun e he j hj => hG e (by omega) he j hj, hF⟩
      · skip
        have h6 : i < 6 := by simp only [Int32.lt_iff_toInt_lt, Int32.le_iff_toInt_le, ← Int32.toInt_inj, Int32.reduceToInt, e_i] at c_1; omega
        refine j_aload_n C dX9_image_27 rfl rfl ?_
        refine j_iload_n C dX9_image_28 rfl rfl ?_
        refine j_callqv C (c_X9_gloveAt _ _ _ _ _ n hc' hn6) dX9_image_29 jm_RX9_110 ⟨_, _, _, _, wO cX0, rfl, rfl⟩ ⟨by decide, by decide, by decide, by decide⟩ rfl (Nat.le_of_ble_eq_true rfl) (fun r z hz => ?_)
        obtain ⟨hb, hz⟩ := hz; have hz := hz.symm; subst hz
        rcases hb with ⟨i_29, hi_29, he_29, rfl⟩ | ⟨hno_29, rfl⟩
        · skip
          have hii_29 : i = i_29 := by
            have := congrArg Int32.toInt he_29; rw [e_i, nI_toInt (by omega)] at this; omega
          refine j_astore_n (lv' := [(2, _), (0, _), (1, _)]) C dX9_image_32 rfl (by decide) rfl ?_
          refine j_aload_n C dX9_image_33 rfl rfl ?_
          refine j_get C dX9_image_34 jf_RX9_44 (wO cX0) rfl ?_
          refine j_iload_n C dX9_image_37 rfl rfl ?_
          refine j_callqv C (c_X2_keptAt _ _ _ _ _ ) dX9_image_38 jm_RX9_270 ⟨_, _, _, _, wO cIm, rfl, rfl⟩ ⟨by decide, by decide, by decide, by decide⟩ rfl (Nat.le_of_ble_eq_true rfl) (fun r z hz => ?_)
          obtain ⟨hb, hz⟩ := hz; have hz := hz.symm; subst hz
          rcases hb with ⟨i_38, hi_38, he_38, rfl⟩ | ⟨hno_38, rfl⟩
          · skip
            have hii_38 : i = i_38 := by
              have := congrArg Int32.toInt he_38; rw [e_i, nI_toInt (by omega)] at this; omega
            refine j_astore_n (lv' := [(3, _), (2, _), (0, _), (1, _)]) C dX9_image_41 rfl (by decide) rfl ?_
            refine j_aload_n C dX9_image_42 rfl rfl ?_
            refine j_ifnull C dX9_image_43 ?_
            refine j_aload_n C dX9_image_46 rfl rfl ?_
            refine j_ifnull C dX9_image_47 ?_
            refine j_aload_n C dX9_image_50 rfl rfl ?_
            refine j_aload_n C dX9_image_51 rfl rfl ?_
            refine j_callvv C (c_X1_become _ _ _ _ (14 + i_38) (isGl_k hi_38) (28 + i_29) (isGl_h (Nat.lt_of_lt_of_le hi_29 hn6)) ) dX9_image_52 jm_RX9_201 ⟨_, _, _, _, wO (cGl (isGl_k hi_38)), rfl, rfl⟩ ⟨by decide, by decide, by decide, by decide⟩ rfl (Nat.le_of_ble_eq_true rfl) (fun z_52 hz_52 => ?_)
            obtain ⟨zf_52, zk_52⟩ := hz_52
            refine j_iinc (lv' := [(1, _), (3, _), (2, _), (0, _)]) (v := nI (i + 1)) C dX9_image_55 rfl (j_inc1 i) (by decide) rfl ?_
            refine j_goto (tgt := 21) C dX9_image_58 (by decide) ?_
            refine j_lv (lv' := [(0, _), (1, _)]) rfl ?_
            subst hii_29; subst hii_38
            exact ih (i + 1) _ (by omega) (by omega) (by rw [zf_52 11 (by omega), zf_52 13 (by omega)]; exact hI) (fun e he hen j hj => by
              by_cases h : e = i
              · subst h; rw [zk_52 j hj, hF _ (by omega) (by omega)]
              · rw [zf_52 _ (by omega)]; exact hG e (by omega) hen j hj) (fun k a b => by rw [zf_52 k (by omega)]; exact hF k a b)
          · skip
            refine j_astore_nN (lv' := [(3, _), (2, _), (0, _), (1, _)]) C dX9_image_41 rfl (by decide) rfl ?_
            refine j_aload_n C dX9_image_42 rfl rfl ?_
            refine j_ifnull C dX9_image_43 ?_
            refine j_aload_nN C dX9_image_46 rfl rfl ?_
            refine j_ifnullN (tgt := 55) C dX9_image_47 (by decide) ?_
            refine j_iinc (lv' := [(1, _), (3, _), (2, _), (0, _)]) (v := nI (i + 1)) C dX9_image_55 rfl (j_inc1 i) (by decide) rfl ?_
            refine j_goto (tgt := 21) C dX9_image_58 (by decide) ?_
            refine j_lv (lv' := [(0, _), (1, _)]) rfl ?_
            first
              | exact absurd ⟨nI_pos' (n := i) (by omega), nI_lt (b := 6) h6 (by decide)⟩ hno_38
              | (have hin : ¬ i < n := fun h => hno_29 ⟨nI_pos' (by omega), by rw [hc']; exact nI_lt h (by omega)⟩
                 exact ih (i + 1) M' (by omega) (by omega) hI (fun e he hen => hG e (by omega) hen) hF)
        · skip
          refine j_astore_nN (lv' := [(2, _), (0, _), (1, _)]) C dX9_image_32 rfl (by decide) rfl ?_
          refine j_aload_n C dX9_image_33 rfl rfl ?_
          refine j_get C dX9_image_34 jf_RX9_44 (wO cX0) rfl ?_
          refine j_iload_n C dX9_image_37 rfl rfl ?_
          refine j_callqv C (c_X2_keptAt _ _ _ _ _ ) dX9_image_38 jm_RX9_270 ⟨_, _, _, _, wO cIm, rfl, rfl⟩ ⟨by decide, by decide, by decide, by decide⟩ rfl (Nat.le_of_ble_eq_true rfl) (fun r z hz => ?_)
          obtain ⟨hb, hz⟩ := hz; have hz := hz.symm; subst hz
          rcases hb with ⟨i_38, hi_38, he_38, rfl⟩ | ⟨hno_38, rfl⟩
          · skip
            have hii_38 : i = i_38 := by
              have := congrArg Int32.toInt he_38; rw [e_i, nI_toInt (by omega)] at this; omega
            refine j_astore_n (lv' := [(3, _), (2, _), (0, _), (1, _)]) C dX9_image_41 rfl (by decide) rfl ?_
            refine j_aload_nN C dX9_image_42 rfl rfl ?_
            refine j_ifnullN (tgt := 55) C dX9_image_43 (by decide) ?_
            refine j_iinc (lv' := [(1, _), (3, _), (2, _), (0, _)]) (v := nI (i + 1)) C dX9_image_55 rfl (j_inc1 i) (by decide) rfl ?_
            refine j_goto (tgt := 21) C dX9_image_58 (by decide) ?_
            refine j_lv (lv' := [(0, _), (1, _)]) rfl ?_
            first
              | exact absurd ⟨nI_pos' (n := i) (by omega), nI_lt (b := 6) h6 (by decide)⟩ hno_38
              | (have hin : ¬ i < n := fun h => hno_29 ⟨nI_pos' (by omega), by rw [hc']; exact nI_lt h (by omega)⟩
                 exact ih (i + 1) M' (by omega) (by omega) hI (fun e he hen => hG e (by omega) hen) hF)
          · skip
            refine j_astore_nN (lv' := [(3, _), (2, _), (0, _), (1, _)]) C dX9_image_41 rfl (by decide) rfl ?_
            refine j_aload_nN C dX9_image_42 rfl rfl ?_
            refine j_ifnullN (tgt := 55) C dX9_image_43 (by decide) ?_
            refine j_iinc (lv' := [(1, _), (3, _), (2, _), (0, _)]) (v := nI (i + 1)) C dX9_image_55 rfl (j_inc1 i) (by decide) rfl ?_
            refine j_goto (tgt := 21) C dX9_image_58 (by decide) ?_
            refine j_lv (lv' := [(0, _), (1, _)]) rfl ?_
            first
              | exact absurd ⟨nI_pos' (n := i) (by omega), nI_lt (b := 6) h6 (by decide)⟩ hno_38
              | (have hin : ¬ i < n := fun h => hno_29 ⟨nI_pos' (by omega), by rw [hc']; exact nI_lt h (by omega)⟩
                 exact ih (i + 1) M' (by omega) (by omega) hI (fun e he hen => hG e (by omega) hen) hF)
  refine j_lv (lv' := [(0, _), (1, _)]) rfl ?_
  exact L_21 7 0 _ (by omega) (by omega) ⟨by simp [uM_all, hn], by simp [uM_all], by simp [uM_all], fun j hj => by
    have h3 : j = 0 ∨ j = 1 ∨ j = 2 := by omega
    rcases h3 with rfl | rfl | rfl <;> simp [uM_all]⟩ (fun e he => absurd he (by omega)) (fun k h1 h2 => by rw [uM_ne h1, uM_ne h1, uM_ne h1, uM_ne (by omega), uM_ne (by omega), uM_ne (by omega)])
set_option maxHeartbeats 4000000 in
set_option maxRecDepth 100000 in
theorem c_X9_back (l : Launch) (g : jG) (a : Nat → Nat) (M : (Nat → Nat → Int32))  (c : Nat) (hc : M 11 2 = nI c) (hc6 : c ≤ 6) : Ci l g yX9_back cX9_back 4 .int 1 23 0 0 (cW g a) [.ref (a 0)] M (fun r z => if M 11 4 = 0 then r = -3 ∧ z = M else (r = nI c ∧ z 0 1 = nI c ∧ z 0 5 = M 11 3 ∧ z 0 4 = M 0 4 ∧ (∀ j, j < 3 → z 2 j = M 13 j) ∧ (∀ i, i < c → ∀ j, j < 5 → z (28 + i) j = M (14 + i) j) ∧ ∀ k, k ≠ 0 → k ≠ 2 → (k < 28 ∨ 28 + c ≤ k) → z k = M k)) := by
  refine mk_i (by decide +kernel) rfl (fun KK hKl hKg C hin hret => ?_)
  subst hKl; subst hKg
  refine j_lv (lv' := [(0, _)]) rfl ?_
  refine j_aload_n C dX9_back_0 rfl rfl ?_
  refine j_get C dX9_back_1 jf_RX9_44 (wO cX0) rfl ?_
  refine j_getN C dX9_back_4 jfn_RX9_273 (wO cIm) rfl ?_
  refine j_if_ne (tgt := 13) C dX9_back_7 (by decide) (fun c_7 => ?_) (fun c_7 => ?_)
  · skip
    refine j_aload_n C dX9_back_13 rfl rfl ?_
    refine j_get C dX9_back_14 jf_RX9_18 (wO cX0) rfl ?_
    refine j_aload_n C dX9_back_17 rfl rfl ?_
    refine j_get C dX9_back_18 jf_RX9_44 (wO cX0) rfl ?_
    refine j_getN C dX9_back_21 jfn_RX9_277 (wO cIm) rfl ?_
    refine j_get C dX9_back_24 jf_RX9_121 (wO (cWk (Or.inr (Or.inl rfl)))) rfl ?_
    refine j_aload_n C dX9_back_27 rfl rfl ?_
    refine j_get C dX9_back_28 jf_RX9_44 (wO cX0) rfl ?_
    refine j_getN C dX9_back_31 jfn_RX9_277 (wO cIm) rfl ?_
    refine j_get C dX9_back_34 jf_RX9_124 (wO (cWk (Or.inr (Or.inl rfl)))) rfl ?_
    refine j_aload_n C dX9_back_37 rfl rfl ?_
    refine j_get C dX9_back_38 jf_RX9_44 (wO cX0) rfl ?_
    refine j_getN C dX9_back_41 jfn_RX9_277 (wO cIm) rfl ?_
    refine j_get C dX9_back_44 jf_RX9_127 (wO (cWk (Or.inr (Or.inl rfl)))) rfl ?_
    refine j_callvv C (c_X8_become _ _ _ _ 2 (Or.inl rfl) _ _ _ ) dX9_back_47 jm_RX9_65 ⟨_, _, _, _, wO (cWk (Or.inl rfl)), rfl, rfl⟩ ⟨by decide, by decide, by decide, by decide⟩ rfl (Nat.le_of_ble_eq_true rfl) (fun z_47 hz_47 => ?_)
    have hz_47 := hz_47.symm; subst hz_47
    refine j_aload_n C dX9_back_50 rfl rfl ?_
    refine j_aload_n C dX9_back_51 rfl rfl ?_
    refine j_get C dX9_back_52 jf_RX9_44 (wO cX0) rfl ?_
    refine j_getN C dX9_back_55 jfn_RX9_280 (wO cIm) rfl ?_
    refine j_put C dX9_back_58 jp_RX9_170 (wO cX0) (Nat.le_of_ble_eq_true rfl) rfl rfl (sO cX0 5 _ rfl) ?_
    refine j_aload_n C dX9_back_61 rfl rfl ?_
    refine j_aload_n C dX9_back_62 rfl rfl ?_
    refine j_get C dX9_back_63 jf_RX9_44 (wO cX0) rfl ?_
    refine j_getN C dX9_back_66 jfn_RX9_281 (wO cIm) rfl ?_
    refine j_put C dX9_back_69 jp_RX9_151 (wO cX0) (Nat.le_of_ble_eq_true rfl) rfl rfl (sO cX0 1 _ rfl) ?_
    refine j_iconst (v := 0) C dX9_back_72 rfl ?_
    refine j_istore_n (lv' := [(1, _), (0, _)]) C dX9_back_73 rfl (by decide) rfl ?_
    have L_74 : ∀ k : Nat, ∀ (i : Nat) (M' : Nat → Nat → Int32), i ≤ 6 → 6 < i + k → (M' 0 1 = nI c ∧ M' 0 5 = M 11 3 ∧ M' 0 4 = M 0 4 ∧ ∀ j, j < 3 → M' 2 j = M 13 j) → (∀ e, e < i → e < c → ∀ j, j < 5 → M' (28 + e) j = M (14 + e) j) → (∀ e, i ≤ e → e < c → M' (28 + e) = M (28 + e)) → (∀ k, k ≠ 0 → k ≠ 2 → (k < 28 ∨ 28 + c ≤ k) → M' k = M k) → J KK (cW (kG KK) a) 0 0 M' [(0, .ref (a 0)), (1, .int (nI i))] 74 [] := by
      intro k
      induction k with
      | zero => intro i M' h1 hk hI hG hG2 hF; omega
      | succ k ih =>
        intro i M' h1 hk hI hG hG2 hF
        have e_i : (nI i).toInt = i := nI_toInt (by omega)
        refine j_iload_n C dX9_back_74 rfl rfl ?_
        refine j_bipush (v := 6) C dX9_back_75 rfl ?_
        refine j_icmp_ge (tgt := 114) C dX9_back_77 (by decide) (fun c_2 => ?_) (fun c_2 => ?_)
        · skip
          have h6 : i = 6 := by simp only [Int32.lt_iff_toInt_lt, Int32.le_iff_toInt_le, ← Int32.toInt_inj, Int32.reduceToInt, e_i] at c_2; omega
          subst h6
          refine j_aload_n C dX9_back_114 rfl rfl ?_
          refine j_get C dX9_back_115 jf_RX9_151 (wO cX0) rfl ?_
          refine hret _ _ _ _ dX9_back_118 rfl ?_
          rw [if_neg c_7]; exact ⟨hI.1, hI.1, hI.2.1, hI.2.2.1, hI.2.2.2, fun e he j hj => hG e (by omega) he j hj, hF⟩
        · skip
          have h6 : i < 6 := by simp only [Int32.lt_iff_toInt_lt, Int32.le_iff_toInt_le, ← Int32.toInt_inj, Int32.reduceToInt, e_i] at c_2; omega
          refine j_aload_n C dX9_back_80 rfl rfl ?_
          refine j_iload_n C dX9_back_81 rfl rfl ?_
          refine j_callqv C (c_X9_gloveAt _ _ _ _ _ c hI.1 hc6) dX9_back_82 jm_RX9_110 ⟨_, _, _, _, wO cX0, rfl, rfl⟩ ⟨by decide, by decide, by decide, by decide⟩ rfl (Nat.le_of_ble_eq_true rfl) (fun r z hz => ?_)
          obtain ⟨hb, hz⟩ := hz; have hz := hz.symm; subst hz
          rcases hb with ⟨i_82, hi_82, he_82, rfl⟩ | ⟨hno_82, rfl⟩
          · skip
            have hii_82 : i = i_82 := by
              have := congrArg Int32.toInt he_82; rw [e_i, nI_toInt (by omega)] at this; omega
            have hn6 := hc6
            refine j_astore_n (lv' := [(2, _), (0, _), (1, _)]) C dX9_back_85 rfl (by decide) rfl ?_
            refine j_aload_n C dX9_back_86 rfl rfl ?_
            refine j_get C dX9_back_87 jf_RX9_44 (wO cX0) rfl ?_
            refine j_iload_n C dX9_back_90 rfl rfl ?_
            refine j_callqv C (c_X2_keptAt _ _ _ _ _ ) dX9_back_91 jm_RX9_270 ⟨_, _, _, _, wO cIm, rfl, rfl⟩ ⟨by decide, by decide, by decide, by decide⟩ rfl (Nat.le_of_ble_eq_true rfl) (fun r z hz => ?_)
            obtain ⟨hb, hz⟩ := hz; have hz := hz.symm; subst hz
            rcases hb with ⟨i_91, hi_91, he_91, rfl⟩ | ⟨hno_91, rfl⟩
            · skip
              have hii_91 : i = i_91 := by
                have := congrArg Int32.toInt he_91; rw [e_i, nI_toInt (by omega)] at this; omega
              refine j_astore_n (lv' := [(3, _), (2, _), (0, _), (1, _)]) C dX9_back_94 rfl (by decide) rfl ?_
              refine j_aload_n C dX9_back_95 rfl rfl ?_
              refine j_ifnull C dX9_back_96 ?_
              refine j_aload_n C dX9_back_99 rfl rfl ?_
              refine j_ifnull C dX9_back_100 ?_
              refine j_aload_n C dX9_back_103 rfl rfl ?_
              refine j_aload_n C dX9_back_104 rfl rfl ?_
              refine j_callvv C (c_X1_become _ _ _ _ (28 + i_82) (isGl_h (Nat.lt_of_lt_of_le hi_82 hn6)) (14 + i_91) (isGl_k hi_91) ) dX9_back_105 jm_RX9_201 ⟨_, _, _, _, wO (cGl (isGl_h (Nat.lt_of_lt_of_le hi_82 hn6))), rfl, rfl⟩ ⟨by decide, by decide, by decide, by decide⟩ rfl (Nat.le_of_ble_eq_true rfl) (fun z_105 hz_105 => ?_)
              obtain ⟨zf_105, zk_105⟩ := hz_105
              refine j_iinc (lv' := [(1, _), (3, _), (2, _), (0, _)]) (v := nI (i + 1)) C dX9_back_108 rfl (j_inc1 i) (by decide) rfl ?_
              refine j_goto (tgt := 74) C dX9_back_111 (by decide) ?_
              refine j_lv (lv' := [(0, _), (1, _)]) rfl ?_
              subst hii_82; subst hii_91
              exact ih (i + 1) _ (by omega) (by omega) (by rw [zf_105 0 (by omega), zf_105 2 (by omega)]; exact hI) (fun e he hec j hj => by
                by_cases h : e = i
                · subst h; rw [zk_105 j hj, hF _ (by omega) (by omega) (by omega)]
                · rw [zf_105 _ (by omega)]; exact hG e (by omega) hec j hj) (fun e he hec => by rw [zf_105 _ (by omega)]; exact hG2 e (by omega) hec) (fun k a b d => by rw [zf_105 k (by omega)]; exact hF k a b d)
            · skip
              refine j_astore_nN (lv' := [(3, _), (2, _), (0, _), (1, _)]) C dX9_back_94 rfl (by decide) rfl ?_
              refine j_aload_n C dX9_back_95 rfl rfl ?_
              refine j_ifnull C dX9_back_96 ?_
              refine j_aload_nN C dX9_back_99 rfl rfl ?_
              refine j_ifnullN (tgt := 108) C dX9_back_100 (by decide) ?_
              refine j_iinc (lv' := [(1, _), (3, _), (2, _), (0, _)]) (v := nI (i + 1)) C dX9_back_108 rfl (j_inc1 i) (by decide) rfl ?_
              refine j_goto (tgt := 74) C dX9_back_111 (by decide) ?_
              refine j_lv (lv' := [(0, _), (1, _)]) rfl ?_
              first
                | exact absurd ⟨nI_pos' (n := i) (by omega), nI_lt (b := 6) h6 (by decide)⟩ hno_91
                | (have hin : ¬ i < c := fun h => hno_82 ⟨nI_pos' (by omega), by rw [hI.1]; exact nI_lt h (by omega)⟩
                   exact ih (i + 1) M' (by omega) (by omega) hI (fun e he hec => hG e (by omega) hec) (fun e he hec => absurd hec (by omega)) hF)
          · skip
            refine j_astore_nN (lv' := [(2, _), (0, _), (1, _)]) C dX9_back_85 rfl (by decide) rfl ?_
            refine j_aload_n C dX9_back_86 rfl rfl ?_
            refine j_get C dX9_back_87 jf_RX9_44 (wO cX0) rfl ?_
            refine j_iload_n C dX9_back_90 rfl rfl ?_
            refine j_callqv C (c_X2_keptAt _ _ _ _ _ ) dX9_back_91 jm_RX9_270 ⟨_, _, _, _, wO cIm, rfl, rfl⟩ ⟨by decide, by decide, by decide, by decide⟩ rfl (Nat.le_of_ble_eq_true rfl) (fun r z hz => ?_)
            obtain ⟨hb, hz⟩ := hz; have hz := hz.symm; subst hz
            rcases hb with ⟨i_91, hi_91, he_91, rfl⟩ | ⟨hno_91, rfl⟩
            · skip
              have hii_91 : i = i_91 := by
                have := congrArg Int32.toInt he_91; rw [e_i, nI_toInt (by omega)] at this; omega
              refine j_astore_n (lv' := [(3, _), (2, _), (0, _), (1, _)]) C dX9_back_94 rfl (by decide) rfl ?_
              refine j_aload_nN C dX9_back_95 rfl rfl ?_
              refine j_ifnullN (tgt := 108) C dX9_back_96 (by decide) ?_
              refine j_iinc (lv' := [(1, _), (3, _), (2, _), (0, _)]) (v := nI (i + 1)) C dX9_back_108 rfl (j_inc1 i) (by decide) rfl ?_
              refine j_goto (tgt := 74) C dX9_back_111 (by decide) ?_
              refine j_lv (lv' := [(0, _), (1, _)]) rfl ?_
              first
                | exact absurd ⟨nI_pos' (n := i) (by omega), nI_lt (b := 6) h6 (by decide)⟩ hno_91
                | (have hin : ¬ i < c := fun h => hno_82 ⟨nI_pos' (by omega), by rw [hI.1]; exact nI_lt h (by omega)⟩
                   exact ih (i + 1) M' (by omega) (by omega) hI (fun e he hec => hG e (by omega) hec) (fun e he hec => absurd hec (by omega)) hF)
            · skip
              refine j_astore_nN (lv' := [(3, _), (2, _), (0, _), (1, _)]) C dX9_back_94 rfl (by decide) rfl ?_
              refine j_aload_nN C dX9_back_95 rfl rfl ?_
              refine j_ifnullN (tgt := 108) C dX9_back_96 (by decide) ?_
              refine j_iinc (lv' := [(1, _), (3, _), (2, _), (0, _)]) (v := nI (i + 1)) C dX9_back_108 rfl (j_inc1 i) (by decide) rfl ?_
              refine j_goto (tgt := 74) C dX9_back_111 (by decide) ?_
              refine j_lv (lv' := [(0, _), (1, _)]) rfl ?_
              first
                | exact absurd ⟨nI_pos' (n := i) (by omega), nI_lt (b := 6) h6 (by decide)⟩ hno_91
                | (have hin : ¬ i < c := fun h => hno_82 ⟨nI_pos' (by omega), by rw [hI.1]; exact nI_lt h (by omega)⟩
                   exact ih (i + 1) M' (by omega) (by omega) hI (fun e he hec => hG e (by omega) hec) (fun e he hec => absurd hec (by omega)) hF)
    refine j_lv (lv' := [(0, _), (1, _)]) rfl ?_
    exact L_74 7 0 _ (by omega) (by omega) ⟨by simp [uM_all, hc], by simp [uM_all], by simp [uM_all], fun j hj => by
      have h3 : j = 0 ∨ j = 1 ∨ j = 2 := by omega
      rcases h3 with rfl | rfl | rfl <;> simp [uM_all]⟩ (fun e he => absurd he (by omega)) (fun e _ _ => by rw [uM_ne (by omega), uM_ne (by omega), uM_ne (by omega), uM_ne (by omega), uM_ne (by omega)]) (fun k h1 h2 _ => by rw [uM_ne h1, uM_ne h1, uM_ne h2, uM_ne h2, uM_ne h2])
  · skip
    refine j_bipush (v := -3) C dX9_back_10 rfl ?_
    refine hret _ _ _ _ dX9_back_12 rfl ?_
    rw [if_pos c_7]; exact ⟨rfl, rfl⟩
