theorem wk_lk {T : Nat → List Int32} {r : Nat → Int32} {f b s : Nat} {w21 w22 : Int32} {d : Nat} (hf : f < 20) (hb : b < 20) (h1 : w21 = whS T r (nI f) d) (h2 : w22 = if whS T r (nI f) d = -1 then 0 else toS T r (nI f) (whS T r (nI f) d) d) : (if pas (nI f) (nI b) w21 then shS r w22 (nI s) else 0) = lkS T r (nI f) (nI f) (nI b) (nI s) d := by
  rw [h1, h2, lkS]
  by_cases hq : whS T r (nI f) d = -1
  · rw [if_pos hq, if_pos hq, hq, if_neg (pas_no (nI_pos' (by omega)) (nI_pos' (by omega)))]
  · rw [if_neg hq, if_neg hq]
theorem wk_pd {f b : Nat} (h : f ≤ b) (hb : b < 1000) : (if 0 ≤ nI b - nI f then nI b - nI f else 0 - (nI b - nI f)) + 1 = nI (b - f + 1) := by
  rw [pk_sub h, if_pos (nI_pos' (by omega)), nI_1]
theorem wkI_s {T : Nat → List Int32} {r : Nat → Int32} {f n : Nat} {st : Int64 × Int64 × Int32} : wkI T r f st (n + 1) = wkT T r f (2 * f + n) (wkI T r f st n) := rfl
theorem wkT_p {T : Nat → List Int32} {r : Nat → Int32} {f i : Nat} {st : Int64 × Int64 × Int32} (h : st.1 < wkW T r f i) : wkT T r f i st = (wkW T r f i, wkV T r f i, nI (1000 * f + 10 * (i / 2) + i % 2)) := if_pos h
theorem wkT_n {T : Nat → List Int32} {r : Nat → Int32} {f i : Nat} {st : Int64 × Int64 × Int32} (h : ¬ st.1 < wkW T r f i) : wkT T r f i st = st := if_neg h

set_option maxHeartbeats 4000000 in
set_option maxRecDepth 100000 in
theorem c_X9_walk (l : Launch) (g : jG) (a : Nat → Nat) (M : (Nat → Nat → Int32)) (p : Int32) (w : Int32) (n t ru : Nat) (T : Nat → Nat → List Int32) (hX : inX M n t ru T) : Cl l g yX9_walk cX9_walk 15 4 96 0 0 (cW g a) [.ref (a 0), .int p, .int w] M (fun r z => r = (if (0 ≤ p ∧ p < M 0 1) ∧ (0 ≤ w ∧ w < 2) then (if w = 0 then (wkO (T ru) (M (28 + p.toNatClampNeg)) 20).2.2.toInt64 else (wkO (T ru) (M (28 + p.toNatClampNeg)) 20).2.1) else -4611686018427387904) ∧ fkX M z) := by
  refine mk_l (by decide +kernel) rfl (fun KK hKl hKg C hin hret => ?_)
  subst hKl; subst hKg
  refine j_lv (lv' := [(0, _), (1, _), (2, _)]) rfl ?_
  have hn6 := hX.1.2; have hru : isTx (34 + 3 * ru) := isTx_h (show ru < 6 by have h1 := hX.2.2.1.2; have h2 := hX.2.1.2.2; omega)
  refine j_aload_n C dX9_walk_0 rfl rfl ?_
  refine j_iload_n C dX9_walk_1 rfl rfl ?_
  refine j_callqv C (c_X9_gloveAt _ _ _ _ _ n hX.1.1 hn6) dX9_walk_2 jm_RX9_110 ⟨_, _, _, _, wO cX0, rfl, rfl⟩ ⟨by decide, by decide, by decide, by decide⟩ rfl (Nat.le_of_ble_eq_true rfl) (fun r z hz => ?_)
  obtain ⟨hb, hz⟩ := hz; have hz := hz.symm; subst hz
  rcases hb with ⟨i_2, hi_2, he_2, rfl⟩ | ⟨hno_2, rfl⟩
  · skip
    refine j_astore_n (lv' := [(3, _), (0, _), (1, _), (2, _)]) C dX9_walk_5 rfl (by decide) rfl ?_
    refine j_aload_n C dX9_walk_6 rfl rfl ?_
    refine j_ifnull C dX9_walk_7 ?_
    refine j_iload_n C dX9_walk_10 rfl rfl ?_
    refine j_iconst (v := 2) C dX9_walk_11 rfl ?_
    refine j_callis C (c_X9_isIn _ _ _ _ _ _ ) dX9_walk_12 jm_RX9_154 ⟨by decide, by decide, by decide, by decide⟩ rfl (Nat.le_of_ble_eq_true rfl) (fun r z hz => ?_)
    obtain ⟨hb, hz⟩ := hz; have hz := hz.symm; subst hz
    rcases hb with ⟨rfl, b_w⟩ | ⟨rfl, b_w⟩
    · skip
      subst he_2
      have hGl : isGl (28 + i_2) := isGl_h (by omega)
      refine j_if_ne (tgt := 22) C dX9_walk_15 (by decide) (fun _ => ?_) (fun c => absurd c (by decide))
      refine j_ldc2 C dX9_walk_22 jc_RX9_187 ?_
      refine j_lstore (lv' := [(4, _), (3, _), (0, _), (1, _), (2, _)]) C dX9_walk_25 (by decide) rfl ?_
      refine j_lconst (v := 0) C dX9_walk_27 rfl ?_
      refine j_lstore (lv' := [(6, _), (4, _), (3, _), (0, _), (1, _), (2, _)]) C dX9_walk_28 (by decide) rfl ?_
      refine j_iconst (v := 0) C dX9_walk_30 rfl ?_
      refine j_istore (lv' := [(8, _), (6, _), (4, _), (3, _), (0, _), (1, _), (2, _)]) C dX9_walk_31 (by decide) rfl ?_
      refine j_iconst (v := 0) C dX9_walk_33 rfl ?_
      refine j_istore (lv' := [(9, _), (8, _), (6, _), (4, _), (3, _), (0, _), (1, _), (2, _)]) C dX9_walk_34 (by decide) rfl ?_
      have L_36 : ∀ k : Nat, ∀ (f : Nat) (M' : Nat → Nat → Int32), f ≤ 20 → 20 < f + k → (fkX M M') → J KK (cW (kG KK) a) 0 0 M' [(0, .ref (a 0)), (1, .int (nI i_2)), (2, .int w), (3, .ref (a (28 + i_2))), (4, .long (wkO (T ru) (M (28 + i_2)) f).1), (6, .long (wkO (T ru) (M (28 + i_2)) f).2.1), (8, .int (wkO (T ru) (M (28 + i_2)) f).2.2), (9, .int (nI f))] 36 [] := by
        intro k
        induction k with
        | zero => intro f M' hf hk hF; omega
        | succ k ih1 =>
          intro f M' hf hk hF
          have e_f : (nI f).toInt = f := nI_toInt (by omega)
          have hX2 := fkX_in hX hF
          refine j_iload C dX9_walk_36 rfl ?_
          refine j_bipush (v := 20) C dX9_walk_38 rfl ?_
          refine j_icmp_ge (tgt := 196) C dX9_walk_40 (by decide) (fun c_2 => ?_) (fun c_2 => ?_)
          · skip
            have hf2 : f = 20 := by simp only [Int32.lt_iff_toInt_lt, Int32.le_iff_toInt_le, ← Int32.toInt_inj, Int32.reduceToInt, e_f] at c_2; omega
            subst hf2
            refine j_iload_n C dX9_walk_196 rfl rfl ?_
            refine j_if_ne (tgt := 206) C dX9_walk_197 (by decide) (fun c_w => ?_) (fun c_w => ?_)
            · skip
              refine j_lload C dX9_walk_206 rfl ?_
              refine hret _ _ _ _ dX9_walk_208 ?_
              refine ok_pos ⟨⟨(nI_0le hi_2 (by omega)).1, by rw [hX.1.1]; exact (nI_0le hi_2 (by omega)).2⟩, b_w⟩ ?_
              rw [nI_clamp (show i_2 < 2147483648 by omega)]
              first
                | (rw [if_pos (show w = 0 from c_w)]; exact ⟨rfl, hF⟩)
                | (rw [if_neg (show ¬ w = 0 from c_w)]; exact ⟨rfl, hF⟩)
            · skip
              refine j_iload C dX9_walk_200 rfl ?_
              refine j_i2l C dX9_walk_202 ?_
              refine j_goto (tgt := 208) C dX9_walk_203 (by decide) ?_
              refine hret _ _ _ _ dX9_walk_208 ?_
              refine ok_pos ⟨⟨(nI_0le hi_2 (by omega)).1, by rw [hX.1.1]; exact (nI_0le hi_2 (by omega)).2⟩, b_w⟩ ?_
              rw [nI_clamp (show i_2 < 2147483648 by omega)]
              first
                | (rw [if_pos (show w = 0 from c_w)]; exact ⟨rfl, hF⟩)
                | (rw [if_neg (show ¬ w = 0 from c_w)]; exact ⟨rfl, hF⟩)
          · skip
            have hf2 : f < 20 := by simp only [Int32.lt_iff_toInt_lt, Int32.le_iff_toInt_le, ← Int32.toInt_inj, Int32.reduceToInt, e_f] at c_2; omega
            refine j_aload_n C dX9_walk_43 rfl rfl ?_
            refine j_get C dX9_walk_44 jf_RX9_51 (wO cX0) rfl ?_
            refine j_aload_n C dX9_walk_47 rfl rfl ?_
            refine j_callqv C (c_X9_ruleText _ _ _ _  n t ru T hX2) dX9_walk_48 jm_RX9_205 ⟨_, _, _, _, wO cX0, rfl, rfl⟩ ⟨by decide, by decide, by decide, by decide⟩ rfl (Nat.le_of_ble_eq_true rfl) (fun r z hz => ?_)
            obtain ⟨hr, hz⟩ := hz; have hr := hr.symm; have hz := hz.symm; subst hr; subst hz
            refine j_top (v' := .ref (a (34 + 3 * ru))) rfl ?_
            refine j_aload_n C dX9_walk_51 rfl rfl ?_
            refine j_iload C dX9_walk_52 rfl ?_
            refine j_callvv C (c_X0_follow _ _ _ _ (34 + 3 * ru) hru (28 + i_2) (isGl_h (Nat.lt_of_lt_of_le hi_2 hn6)) _ (T ru) (hX2.2.2.2.2 ru hX2.2.2.1.2)) dX9_walk_54 jm_RX9_209 ⟨_, _, _, _, wO cCo, rfl, rfl⟩ ⟨by decide, by decide, by decide, by decide⟩ rfl (Nat.le_of_ble_eq_true rfl) (fun z_54 hz_54 => ?_)
            obtain ⟨zf_54, zw_54⟩ := hz_54
            have hF3 : fkX M z_54 := fun k hk => by rw [zf_54 k (by unfold scX at hk; omega) (by unfold scX at hk; omega) (by unfold scX at hk; omega)]; exact hF k hk
            have hX3 := fkX_in hX hF3
            refine j_aload_n C dX9_walk_57 rfl rfl ?_
            refine j_get C dX9_walk_58 jf_RX9_51 (wO cX0) rfl ?_
            refine j_aload_n C dX9_walk_61 rfl rfl ?_
            refine j_callqv C (c_X9_ruleText _ _ _ _  n t ru T hX3) dX9_walk_62 jm_RX9_205 ⟨_, _, _, _, wO cX0, rfl, rfl⟩ ⟨by decide, by decide, by decide, by decide⟩ rfl (Nat.le_of_ble_eq_true rfl) (fun r z hz => ?_)
            obtain ⟨hr, hz⟩ := hz; have hr := hr.symm; have hz := hz.symm; subst hr; subst hz
            refine j_top (v' := .ref (a (34 + 3 * ru))) rfl ?_
            refine j_aload_n C dX9_walk_65 rfl rfl ?_
            refine j_iload C dX9_walk_66 rfl ?_
            refine j_callvv C (c_X0_ask _ _ _ _ (34 + 3 * ru) hru (28 + i_2) (isGl_h (Nat.lt_of_lt_of_le hi_2 hn6)) _ (T ru) (hX3.2.2.2.2 ru hX3.2.2.1.2) _ zw_54) dX9_walk_68 jm_RX9_212 ⟨_, _, _, _, wO cCo, rfl, rfl⟩ ⟨by decide, by decide, by decide, by decide⟩ rfl (Nat.le_of_ble_eq_true rfl) (fun z_68 hz_68 => ?_)
            obtain ⟨zf_68, zw_68⟩ := hz_68
            refine j_iload C dX9_walk_71 rfl ?_
            refine j_iconst (v := 2) C dX9_walk_73 rfl ?_
            refine j_imul C dX9_walk_74 ?_
            refine j_top (v' := .int (nI (2 * f + 0))) (vint ((pk_mul f 2).trans (by rw [Nat.mul_comm]; rfl))) ?_
            refine j_istore (lv' := [(10, _), (0, _), (1, _), (2, _), (3, _), (4, _), (6, _), (8, _), (9, _)]) C dX9_walk_75 (by decide) rfl ?_
            have L_77 : ∀ k : Nat, ∀ (q : Nat) (M'' : Nat → Nat → Int32), q ≤ 40 - 2 * f → 40 - 2 * f < q + k → (fkX M M'') → (∀ d, d < 30 → M'' 21 d = whS (T ru) (M (28 + i_2)) (nI f) d) → (∀ d, d < 30 → M'' 22 d = if whS (T ru) (M (28 + i_2)) (nI f) d = -1 then 0 else toS (T ru) (M (28 + i_2)) (nI f) (whS (T ru) (M (28 + i_2)) (nI f) d) d) → J KK (cW (kG KK) a) 0 0 M'' [(0, .ref (a 0)), (1, .int (nI i_2)), (2, .int w), (3, .ref (a (28 + i_2))), (4, .long (wkI (T ru) (M (28 + i_2)) f (wkO (T ru) (M (28 + i_2)) f) q).1), (6, .long (wkI (T ru) (M (28 + i_2)) f (wkO (T ru) (M (28 + i_2)) f) q).2.1), (8, .int (wkI (T ru) (M (28 + i_2)) f (wkO (T ru) (M (28 + i_2)) f) q).2.2), (9, .int (nI f)), (10, .int (nI (2 * f + q)))] 77 [] := by
              intro k
              induction k with
              | zero => intro q M'' hq hk2 hF2 hA hB; omega
              | succ k ih =>
                intro q M'' hq hk2 hF2 hA hB
                have e_i : (nI (2 * f + q)).toInt = 2 * f + q := by rw [nI_toInt (by omega)]; simp
                refine j_iload C dX9_walk_77 rfl ?_
                refine j_bipush (v := 40) C dX9_walk_79 rfl ?_
                refine j_icmp_ge (tgt := 190) C dX9_walk_81 (by decide) (fun c_4 => ?_) (fun c_4 => ?_)
                · skip
                  have hq2 : 40 ≤ 2 * f + q := by simp only [Int32.lt_iff_toInt_lt, Int32.le_iff_toInt_le, ← Int32.toInt_inj, Int32.reduceToInt, e_i] at c_4; omega
                  refine j_iinc (lv' := [(9, _), (0, _), (1, _), (2, _), (3, _), (4, _), (6, _), (8, _), (10, _)]) (v := nI (f + 1)) C dX9_walk_190 rfl (j_inc1 f) (by decide) rfl ?_
                  refine j_goto (tgt := 36) C dX9_walk_193 (by decide) ?_
                  refine j_lv (lv' := [(0, _), (1, _), (2, _), (3, _), (4, _), (6, _), (8, _), (9, _)]) rfl ?_
                  have hn9 : q = 40 - 2 * f := by omega
                  subst hn9
                  exact ih1 (f + 1) M'' (by omega) (by omega) hF2
                · skip
                  have hq2 : 2 * f + q < 40 := by simp only [Int32.lt_iff_toInt_lt, Int32.le_iff_toInt_le, ← Int32.toInt_inj, Int32.reduceToInt, e_i] at c_4; omega
                  refine j_aload_n C dX9_walk_84 rfl rfl ?_
                  refine j_get C dX9_walk_85 jf_RX9_60 (wO cX0) rfl ?_
                  refine j_iload C dX9_walk_88 rfl ?_
                  refine j_iload C dX9_walk_90 rfl ?_
                  refine j_iconst (v := 2) C dX9_walk_92 rfl ?_
                  refine j_idiv C dX9_walk_93 (by decide) ?_
                  refine j_top (v' := .int (nI ((2 * f + q) / 2))) (vint (pk_div (d := 2) (by omega) (by decide) (by decide))) ?_
                  refine j_iload C dX9_walk_94 rfl ?_
                  refine j_iconst (v := 2) C dX9_walk_96 rfl ?_
                  refine j_irem C dX9_walk_97 (by decide) ?_
                  refine j_top (v' := .int (nI ((2 * f + q) % 2))) (vint (pk_rem (d := 2) (by omega) (by decide) (by decide))) ?_
                  refine j_callvv C (c_X8_become _ _ _ _ 27 (Or.inr (Or.inr rfl)) _ _ _ ) dX9_walk_98 jm_RX9_65 ⟨_, _, _, _, wO (cWk (Or.inr (Or.inr rfl))), rfl, rfl⟩ ⟨by decide, by decide, by decide, by decide⟩ rfl (Nat.le_of_ble_eq_true rfl) (fun z_98 hz_98 => ?_)
                  have hz_98 := hz_98.symm; subst hz_98
                  refine j_aload_n C dX9_walk_101 rfl rfl ?_
                  refine j_get C dX9_walk_102 jf_RX9_51 (wO cX0) rfl ?_
                  refine j_aload_n C dX9_walk_105 rfl rfl ?_
                  refine j_aload_n C dX9_walk_106 rfl rfl ?_
                  refine j_get C dX9_walk_107 jf_RX9_60 (wO cX0) rfl ?_
                  refine j_callvv C (c_X0_pass _ _ _ _ (28 + i_2) (isGl_h (Nat.lt_of_lt_of_le hi_2 hn6)) 27 (Or.inr (Or.inr rfl)) ) dX9_walk_110 jm_RX9_215 ⟨_, _, _, _, wO cCo, rfl, rfl⟩ ⟨by decide, by decide, by decide, by decide⟩ rfl (Nat.le_of_ble_eq_true rfl) (fun z_110 hz_110 => ?_)
                  obtain ⟨zf_110, zl_110⟩ := hz_110
                  have g0 : z_110 27 0 = nI f := by rw [zf_110 27 (by decide)]; simp [uM_all]
                  have g1 : z_110 27 1 = nI ((2 * f + q) / 2) := by rw [zf_110 27 (by decide)]; simp [uM_all]
                  have g2 : z_110 27 2 = nI ((2 * f + q) % 2) := by rw [zf_110 27 (by decide)]; simp [uM_all]
                  refine j_aload_n C dX9_walk_113 rfl rfl ?_
                  refine j_get C dX9_walk_114 jf_RX9_51 (wO cX0) rfl ?_
                  refine j_bipush (v := 30) C dX9_walk_117 rfl ?_
                  refine j_calllv C (c_X0_partsBy _ _ _ _ _ 30 rfl (by decide)) dX9_walk_119 jm_RX9_219 ⟨_, _, _, _, wO cCo, rfl, rfl⟩ ⟨by decide, by decide, by decide, by decide⟩ rfl (Nat.le_of_ble_eq_true rfl) (fun r_119 z_119 hz_119 => ?_)
                  obtain ⟨hr, hz⟩ := hz_119; have hz := hz.symm; subst hz
                  have hv : r_119 = wkV (T ru) (M (28 + i_2)) f (2 * f + q) := by
                    rw [hr, paS, wkV, paS, leS_c 30]
                    intro d hd
                    rw [zl_110 d hd, uM_ne (k' := 28 + i_2) (by omega), uM_ne (k' := 28 + i_2) (by omega), uM_ne (k' := 28 + i_2) (by omega), hF2 (28 + i_2) (by unfold scX; omega)]
                    rw [← wk_lk (b := (2 * f + q) / 2) (s := (2 * f + q) % 2) hf2 (by omega) (hA d hd) (hB d hd)]
                    simp only [uM_all]; rfl
                  clear hr; have hv := hv.symm; subst hv
                  refine j_lstore (lv' := [(11, _), (0, _), (1, _), (2, _), (3, _), (4, _), (6, _), (8, _), (9, _), (10, _)]) C dX9_walk_122 (by decide) rfl ?_
                  refine j_lload C dX9_walk_124 rfl ?_
                  refine j_ldc2 C dX9_walk_126 jc_RX9_199 ?_
                  refine j_aload_n C dX9_walk_129 rfl rfl ?_
                  refine j_get C dX9_walk_130 jf_RX9_60 (wO cX0) rfl ?_
                  refine j_calliv C (c_X8_passed _ _ _ _ 27 (Or.inr (Or.inr rfl)) ) dX9_walk_133 jm_RX9_223 ⟨_, _, _, _, wO (cWk (Or.inr (Or.inr rfl))), rfl, rfl⟩ ⟨by decide, by decide, by decide, by decide⟩ rfl (Nat.le_of_ble_eq_true rfl) (fun r_133 z_133 hz_133 => ?_)
                  obtain ⟨hr, hz⟩ := hz_133; have hz := hz.symm; subst hz; rw [g0, g1, wk_pd (by omega) (by omega)] at hr; have hr := hr.symm; subst hr
                  refine j_i2l C dX9_walk_136 ?_
                  refine j_lmul C dX9_walk_137 ?_
                  refine j_lsub C dX9_walk_138 ?_
                  refine j_lstore (lv' := [(13, _), (11, _), (0, _), (1, _), (2, _), (3, _), (4, _), (6, _), (8, _), (9, _), (10, _)]) C dX9_walk_139 (by decide) rfl ?_
                  refine j_lload C dX9_walk_141 rfl ?_
                  refine j_lload C dX9_walk_143 rfl ?_
                  refine j_lcmp C dX9_walk_145 ?_
                  refine j_if_le (tgt := 184) C dX9_walk_146 (by decide) (fun c_146 => ?_) (fun c_146 => ?_)
                  · rw [lg_cmp_le] at c_146
                    have hcc : ¬ (wkI (T ru) (M (28 + i_2)) f (wkO (T ru) (M (28 + i_2)) f) q).1 < wkW (T ru) (M (28 + i_2)) f (2 * f + q) := by rw [Int64.lt_iff_toInt_lt]; rw [Int64.le_iff_toInt_le] at c_146; exact Int.not_lt.mpr c_146
                    refine j_iinc (lv' := [(10, _), (13, _), (11, _), (0, _), (1, _), (2, _), (3, _), (4, _), (6, _), (8, _), (9, _)]) (v := nI ((2 * f + q) + 1)) C dX9_walk_184 rfl (j_inc1 (2 * f + q)) (by decide) rfl ?_
                    refine j_goto (tgt := 77) C dX9_walk_187 (by decide) ?_
                    refine j_lv (lv' := [(0, _), (1, _), (2, _), (3, _), (4, _), (6, _), (8, _), (9, _), (10, _)]) rfl ?_
                    have hFz : fkX M z_110 := fun k hk => by rw [zf_110 k (by intro e; subst e; exact hk (by unfold scX; omega)), uM_ne (by intro e; subst e; exact hk (by unfold scX; omega)), uM_ne (by intro e; subst e; exact hk (by unfold scX; omega)), uM_ne (by intro e; subst e; exact hk (by unfold scX; omega))]; exact hF2 k hk
                    have hAz : ∀ d, d < 30 → z_110 21 d = whS (T ru) (M (28 + i_2)) (nI f) d := fun d hd => by rw [zf_110 21 (by decide), uM_ne (k' := 21) (by decide), uM_ne (k' := 21) (by decide), uM_ne (k' := 21) (by decide)]; exact hA d hd
                    have hBz : ∀ d, d < 30 → z_110 22 d = if whS (T ru) (M (28 + i_2)) (nI f) d = -1 then 0 else toS (T ru) (M (28 + i_2)) (nI f) (whS (T ru) (M (28 + i_2)) (nI f) d) d := fun d hd => by rw [zf_110 22 (by decide), uM_ne (k' := 22) (by decide), uM_ne (k' := 22) (by decide), uM_ne (k' := 22) (by decide)]; exact hB d hd
                    have h9 := ih (q + 1) z_110 (by omega) (by omega) hFz hAz hBz
                    rw [wkI_s] at h9
                    first
                      | (rw [wkT_p hcc] at h9; exact h9)
                      | (rw [wkT_n hcc] at h9; exact h9)
                  · rw [lg_cmp_le] at c_146
                    have hcc : (wkI (T ru) (M (28 + i_2)) f (wkO (T ru) (M (28 + i_2)) f) q).1 < wkW (T ru) (M (28 + i_2)) f (2 * f + q) := by rw [Int64.lt_iff_toInt_lt]; rw [Int64.le_iff_toInt_le] at c_146; exact Int.not_le.mp c_146
                    refine j_lload C dX9_walk_149 rfl ?_
                    refine j_lstore (lv' := [(4, _), (13, _), (11, _), (0, _), (1, _), (2, _), (3, _), (6, _), (8, _), (9, _), (10, _)]) C dX9_walk_151 (by decide) rfl ?_
                    refine j_lload C dX9_walk_153 rfl ?_
                    refine j_lstore (lv' := [(6, _), (4, _), (13, _), (11, _), (0, _), (1, _), (2, _), (3, _), (8, _), (9, _), (10, _)]) C dX9_walk_155 (by decide) rfl ?_
                    refine j_sipush (v := 1000) C dX9_walk_157 rfl ?_
                    refine j_iload C dX9_walk_160 rfl ?_
                    refine j_imul C dX9_walk_162 ?_
                    refine j_bipush (v := 10) C dX9_walk_163 rfl ?_
                    refine j_aload_n C dX9_walk_165 rfl rfl ?_
                    refine j_get C dX9_walk_166 jf_RX9_60 (wO cX0) rfl ?_
                    refine j_get C dX9_walk_169 jf_RX9_124 (wO (cWk (Or.inr (Or.inr rfl)))) rfl ?_
                    refine j_imul C dX9_walk_172 ?_
                    refine j_iadd C dX9_walk_173 ?_
                    refine j_aload_n C dX9_walk_174 rfl rfl ?_
                    refine j_get C dX9_walk_175 jf_RX9_60 (wO cX0) rfl ?_
                    refine j_get C dX9_walk_178 jf_RX9_127 (wO (cWk (Or.inr (Or.inr rfl)))) rfl ?_
                    refine j_iadd C dX9_walk_181 ?_
                    have hw9 : (1000 : Int32) * nI f + 10 * z_110 27 1 + z_110 27 2 = nI (1000 * f + 10 * ((2 * f + q) / 2) + (2 * f + q) % 2) := by
                      rw [g1, g2]
                      have a1 : (1000 : Int32) * nI f = nI (1000 * f) := pk_mul 1000 f
                      have a2 : (10 : Int32) * nI ((2 * f + q) / 2) = nI (10 * ((2 * f + q) / 2)) := pk_mul 10 _
                      rw [a1, a2, nI_add, nI_add]
                    refine j_top (vint hw9) ?_
                    refine j_istore (lv' := [(8, _), (6, _), (4, _), (13, _), (11, _), (0, _), (1, _), (2, _), (3, _), (9, _), (10, _)]) C dX9_walk_182 (by decide) rfl ?_
                    refine j_iinc (lv' := [(10, _), (8, _), (6, _), (4, _), (13, _), (11, _), (0, _), (1, _), (2, _), (3, _), (9, _)]) (v := nI ((2 * f + q) + 1)) C dX9_walk_184 rfl (j_inc1 (2 * f + q)) (by decide) rfl ?_
                    refine j_goto (tgt := 77) C dX9_walk_187 (by decide) ?_
                    refine j_lv (lv' := [(0, _), (1, _), (2, _), (3, _), (4, _), (6, _), (8, _), (9, _), (10, _)]) rfl ?_
                    have hFz : fkX M z_110 := fun k hk => by rw [zf_110 k (by intro e; subst e; exact hk (by unfold scX; omega)), uM_ne (by intro e; subst e; exact hk (by unfold scX; omega)), uM_ne (by intro e; subst e; exact hk (by unfold scX; omega)), uM_ne (by intro e; subst e; exact hk (by unfold scX; omega))]; exact hF2 k hk
                    have hAz : ∀ d, d < 30 → z_110 21 d = whS (T ru) (M (28 + i_2)) (nI f) d := fun d hd => by rw [zf_110 21 (by decide), uM_ne (k' := 21) (by decide), uM_ne (k' := 21) (by decide), uM_ne (k' := 21) (by decide)]; exact hA d hd
                    have hBz : ∀ d, d < 30 → z_110 22 d = if whS (T ru) (M (28 + i_2)) (nI f) d = -1 then 0 else toS (T ru) (M (28 + i_2)) (nI f) (whS (T ru) (M (28 + i_2)) (nI f) d) d := fun d hd => by rw [zf_110 22 (by decide), uM_ne (k' := 22) (by decide), uM_ne (k' := 22) (by decide), uM_ne (k' := 22) (by decide)]; exact hB d hd
                    have h9 := ih (q + 1) z_110 (by omega) (by omega) hFz hAz hBz
                    rw [wkI_s] at h9
                    first
                      | (rw [wkT_p hcc] at h9; exact h9)
                      | (rw [wkT_n hcc] at h9; exact h9)
            refine j_lv (lv' := [(0, _), (1, _), (2, _), (3, _), (4, _), (6, _), (8, _), (9, _), (10, _)]) rfl ?_
            exact L_77 (40 - 2 * f + 1) 0 z_68 (by omega) (by omega) (fun k hk => by rw [zf_68 k (by unfold scX at hk; omega) (by unfold scX at hk; omega) (by unfold scX at hk; omega)]; exact hF3 k hk) (fun d hd => by rw [zf_68 21 (by decide) (by decide) (by decide), zw_54 d hd, hF _ (by unfold scX; omega)]) (fun d hd => by rw [zw_68 d hd, hF _ (by unfold scX; omega), hF3 _ (by unfold scX; omega)])
      refine j_lv (lv' := [(0, _), (1, _), (2, _), (3, _), (4, _), (6, _), (8, _), (9, _)]) rfl ?_
      exact L_36 21 0 M (by omega) (by omega) fkX_r
    · skip
      refine j_if_ne (tgt := 22) C dX9_walk_15 (by decide) (fun c => absurd (by decide) c) (fun _ => ?_)
      refine j_ldc2 C dX9_walk_18 jc_RX9_187 ?_
      refine hret _ _ _ _ dX9_walk_21 ?_
      first | exact ⟨(if_neg (fun h => hno_2 h.1)).symm, fkX_r⟩ | exact ⟨(if_neg (fun h => b_w h.2)).symm, fkX_r⟩
  · skip
    refine j_astore_nN (lv' := [(3, _), (0, _), (1, _), (2, _)]) C dX9_walk_5 rfl (by decide) rfl ?_
    refine j_aload_nN C dX9_walk_6 rfl rfl ?_
    refine j_ifnullN (tgt := 18) C dX9_walk_7 (by decide) ?_
    refine j_ldc2 C dX9_walk_18 jc_RX9_187 ?_
    refine hret _ _ _ _ dX9_walk_21 ?_
    first | exact ⟨(if_neg (fun h => hno_2 h.1)).symm, fkX_r⟩ | exact ⟨(if_neg (fun h => b_w h.2)).symm, fkX_r⟩
theorem seS_c {f h : Nat → Int32} {s : Int32} : ∀ k d, (∀ e, e < d + k → f e = h e) → seS f s k d = seS h s k d
  | 0, _, _ => rfl
  | k + 1, d, e => by rw [seS, seS, e d (by omega), seS_c k (d + 1) (fun j hj => e j (by omega))]
theorem seS_ne {f : Nat → Int32} {s : Int32} : True := trivial
set_option maxHeartbeats 4000000 in
set_option maxRecDepth 100000 in
theorem c_X9_lot (l : Launch) (g : jG) (a : Nat → Nat) (M : (Nat → Nat → Int32)) (p : Int32) (q : Int32) (n t ru : Nat) (T : Nat → Nat → List Int32) (hX : inX M n t ru T) : Ci l g yX9_lot cX9_lot 4 .int 5 117 0 0 (cW g a) [.ref (a 0), .int p, .int q] M (fun r z => r = (if (0 ≤ p ∧ p < M 0 1) then seS (lkS (T ru) (M (28 + p.toNatClampNeg)) (M 2 0) (M 2 0) (M 2 1) (M 2 2)) q 30 0 else -2) ∧ fkX M z) := by
  refine mk_i (by decide +kernel) rfl (fun KK hKl hKg C hin hret => ?_)
  subst hKl; subst hKg
  refine j_lv (lv' := [(0, _), (1, _), (2, _)]) rfl ?_
  have hn6 := hX.1.2
  refine j_aload_n C dX9_lot_0 rfl rfl ?_
  refine j_iload_n C dX9_lot_1 rfl rfl ?_
  refine j_callqv C (c_X9_gloveAt _ _ _ _ _ n hX.1.1 hn6) dX9_lot_2 jm_RX9_110 ⟨_, _, _, _, wO cX0, rfl, rfl⟩ ⟨by decide, by decide, by decide, by decide⟩ rfl (Nat.le_of_ble_eq_true rfl) (fun r z hz => ?_)
  obtain ⟨hb, hz⟩ := hz; have hz := hz.symm; subst hz
  rcases hb with ⟨i_2, hi_2, he_2, rfl⟩ | ⟨hno_2, rfl⟩
  · skip
    subst he_2
    refine j_astore_n (lv' := [(3, _), (0, _), (1, _), (2, _)]) C dX9_lot_5 rfl (by decide) rfl ?_
    refine j_aload_n C dX9_lot_6 rfl rfl ?_
    refine j_ifnonnull (tgt := 13) C dX9_lot_7 (by decide) ?_
    refine j_aload_n C dX9_lot_13 rfl rfl ?_
    refine j_aload_n C dX9_lot_14 rfl rfl ?_
    refine j_callvv C (c_X9_follow _ _ _ _ (28 + i_2) (isGl_h (Nat.lt_of_lt_of_le hi_2 hn6)) n t ru T hX) dX9_lot_15 jm_RX9_173 ⟨_, _, _, _, wO cX0, rfl, rfl⟩ ⟨by decide, by decide, by decide, by decide⟩ rfl (Nat.le_of_ble_eq_true rfl) (fun z_15 hz_15 => ?_)
    obtain ⟨zf_15, zw_15, zl_15⟩ := hz_15
    refine j_aload_n C dX9_lot_18 rfl rfl ?_
    refine j_get C dX9_lot_19 jf_RX9_51 (wO cX0) rfl ?_
    refine j_iload_n C dX9_lot_22 rfl rfl ?_
    refine j_calliv C (c_X0_seenBy _ _ _ _ _ ) dX9_lot_23 jm_RX9_263 ⟨_, _, _, _, wO cCo, rfl, rfl⟩ ⟨by decide, by decide, by decide, by decide⟩ rfl (Nat.le_of_ble_eq_true rfl) (fun r_23 z_23 hz_23 => ?_)
    obtain ⟨hr, hz⟩ := hz_23; have hz := hz.symm; subst hz
    refine hret _ _ _ _ dX9_lot_26 rfl ?_
    refine ok_pos ⟨(nI_0le hi_2 (by omega)).1, by rw [hX.1.1]; exact (nI_0le hi_2 (by omega)).2⟩ ?_
    rw [nI_clamp (show i_2 < 2147483648 by omega)]
    exact ⟨by rw [hr]; exact seS_c 30 0 (fun d hd => zl_15 d (by omega)), fun k hk => zf_15 k (by unfold scX at hk; omega)⟩
  · skip
    refine j_astore_nN (lv' := [(3, _), (0, _), (1, _), (2, _)]) C dX9_lot_5 rfl (by decide) rfl ?_
    refine j_aload_nN C dX9_lot_6 rfl rfl ?_
    refine j_ifnonnullN C dX9_lot_7 ?_
    refine j_bipush (v := -2) C dX9_lot_10 rfl ?_
    refine hret _ _ _ _ dX9_lot_12 rfl ?_
    exact ⟨(if_neg hno_2).symm, fkX_r⟩
set_option maxHeartbeats 4000000 in
set_option maxRecDepth 100000 in
theorem c_X9_chance (l : Launch) (g : jG) (a : Nat → Nat) (M : (Nat → Nat → Int32)) (p : Int32) (sd : Int32) (q : Int32) (w : Int32) (n t ru : Nat) (T : Nat → Nat → List Int32) (hX : inX M n t ru T) : Cl l g yX9_chance cX9_chance 8 5 117 0 0 (cW g a) [.ref (a 0), .int p, .int sd, .int q, .int w] M (fun r z => r = (if (0 ≤ p ∧ p < M 0 1) ∧ (1 ≤ q ∧ q ≤ 20) ∧ (0 ≤ w ∧ w < 2) then frS (chS (lkS (T ru) (M (28 + p.toNatClampNeg)) (M 2 0) (M 2 0) (M 2 1) (M 2 2)) sd q.toNatClampNeg) q.toNatClampNeg w else -4611686018427387904) ∧ fkX M z) := by
  refine mk_l (by decide +kernel) rfl (fun KK hKl hKg C hin hret => ?_)
  subst hKl; subst hKg
  refine j_lv (lv' := [(0, _), (1, _), (2, _), (3, _), (4, _)]) rfl ?_
  have hn6 := hX.1.2
  refine j_aload_n C dX9_chance_0 rfl rfl ?_
  refine j_iload_n C dX9_chance_1 rfl rfl ?_
  refine j_callqv C (c_X9_gloveAt _ _ _ _ _ n hX.1.1 hn6) dX9_chance_2 jm_RX9_110 ⟨_, _, _, _, wO cX0, rfl, rfl⟩ ⟨by decide, by decide, by decide, by decide⟩ rfl (Nat.le_of_ble_eq_true rfl) (fun r z hz => ?_)
  obtain ⟨hb, hz⟩ := hz; have hz := hz.symm; subst hz
  rcases hb with ⟨i_2, hi_2, he_2, rfl⟩ | ⟨hno_2, rfl⟩
  · skip
    subst he_2
    refine j_astore (lv' := [(5, _), (0, _), (1, _), (2, _), (3, _), (4, _)]) C dX9_chance_5 (by decide) rfl ?_
    refine j_aload C dX9_chance_7 rfl ?_
    refine j_ifnull C dX9_chance_9 ?_
    refine j_iload_n C dX9_chance_12 rfl rfl ?_
    refine j_iconst (v := 1) C dX9_chance_13 rfl ?_
    refine j_icmp_lt (tgt := 32) C dX9_chance_14 (by decide) (fun b_1q => ?_) (fun b_1q => ?_)
    · skip
      refine j_ldc2 C dX9_chance_32 jc_RX9_187 ?_
      refine hret _ _ _ _ dX9_chance_35 ?_
      first | exact ⟨(if_neg (fun h => hno_2 h.1)).symm, fkX_r⟩ | exact ⟨(if_neg (fun h => by have := h.2.1; simp only [Int32.lt_iff_toInt_lt, Int32.le_iff_toInt_le, ← Int32.toInt_inj, Int32.reduceToInt] at *; omega)).symm, fkX_r⟩ | exact ⟨(if_neg (fun h => b_w h.2.2)).symm, fkX_r⟩
    · skip
      refine j_iload_n C dX9_chance_17 rfl rfl ?_
      refine j_bipush (v := 20) C dX9_chance_18 rfl ?_
      refine j_icmp_gt (tgt := 32) C dX9_chance_20 (by decide) (fun b_2q => ?_) (fun b_2q => ?_)
      · skip
        refine j_ldc2 C dX9_chance_32 jc_RX9_187 ?_
        refine hret _ _ _ _ dX9_chance_35 ?_
        first | exact ⟨(if_neg (fun h => hno_2 h.1)).symm, fkX_r⟩ | exact ⟨(if_neg (fun h => by have := h.2.1; simp only [Int32.lt_iff_toInt_lt, Int32.le_iff_toInt_le, ← Int32.toInt_inj, Int32.reduceToInt] at *; omega)).symm, fkX_r⟩ | exact ⟨(if_neg (fun h => b_w h.2.2)).symm, fkX_r⟩
      · skip
        refine j_iload C dX9_chance_23 rfl ?_
        refine j_iconst (v := 2) C dX9_chance_25 rfl ?_
        refine j_callis C (c_X9_isIn _ _ _ _ _ _ ) dX9_chance_26 jm_RX9_154 ⟨by decide, by decide, by decide, by decide⟩ rfl (Nat.le_of_ble_eq_true rfl) (fun r z hz => ?_)
        obtain ⟨hb, hz⟩ := hz; have hz := hz.symm; subst hz
        rcases hb with ⟨rfl, b_w⟩ | ⟨rfl, b_w⟩
        · skip
          refine j_if_ne (tgt := 36) C dX9_chance_29 (by decide) (fun _ => ?_) (fun c => absurd c (by decide))
          refine j_aload_n C dX9_chance_36 rfl rfl ?_
          refine j_aload C dX9_chance_37 rfl ?_
          refine j_callvv C (c_X9_follow _ _ _ _ (28 + i_2) (isGl_h (Nat.lt_of_lt_of_le hi_2 hn6)) n t ru T hX) dX9_chance_39 jm_RX9_173 ⟨_, _, _, _, wO cX0, rfl, rfl⟩ ⟨by decide, by decide, by decide, by decide⟩ rfl (Nat.le_of_ble_eq_true rfl) (fun z_39 hz_39 => ?_)
          obtain ⟨zf_39, zw_39, zl_39⟩ := hz_39
          obtain ⟨qn, hqn, rfl⟩ := in_of (B := 21) (q := q) (m := 21) (by simp only [Int32.lt_iff_toInt_lt, Int32.le_iff_toInt_le, ← Int32.toInt_inj, Int32.reduceToInt] at b_1q b_2q ⊢; omega) rfl
          have hq1 : 1 ≤ qn := by simp only [Int32.lt_iff_toInt_lt, Int32.le_iff_toInt_le, ← Int32.toInt_inj, Int32.reduceToInt, nI_toInt (show qn < 2147483648 by omega)] at b_1q; omega
          refine j_iconst (v := 0) C dX9_chance_42 rfl ?_
          refine j_istore (lv' := [(6, _), (5, _), (0, _), (1, _), (2, _), (3, _), (4, _)]) C dX9_chance_43 (by decide) rfl ?_
          refine j_iconst (v := 0) C dX9_chance_45 rfl ?_
          refine j_istore (lv' := [(7, _), (6, _), (5, _), (0, _), (1, _), (2, _), (3, _), (4, _)]) C dX9_chance_46 (by decide) rfl ?_
          have L_48 : ∀ k : Nat, ∀ (d : Nat), d ≤ qn → qn < d + k → J KK (cW (kG KK) a) 0 0 z_39 [(0, .ref (a 0)), (1, .int (nI i_2)), (2, .int sd), (3, .int (nI qn)), (4, .int w), (6, .int (nI (chS (lkS (T ru) (M (28 + i_2)) (M 2 0) (M 2 0) (M 2 1) (M 2 2)) sd d))), (7, .int (nI d))] 48 [] := by
            intro k
            induction k with
            | zero => intro d h1 hk; omega
            | succ k ih =>
              intro d h1 hk
              have e_d : (nI d).toInt = d := nI_toInt (by omega); have e_qn : (nI qn).toInt = qn := nI_toInt (by omega)
              refine j_iload C dX9_chance_48 rfl ?_
              refine j_iload_n C dX9_chance_50 rfl rfl ?_
              refine j_icmp_ge (tgt := 85) C dX9_chance_51 (by decide) (fun c_4 => ?_) (fun c_4 => ?_)
              · skip
                have hd : d = qn := by simp only [Int32.lt_iff_toInt_lt, Int32.le_iff_toInt_le, ← Int32.toInt_inj, Int32.reduceToInt, e_d, e_qn] at c_4; omega
                subst hd
                have hle := chS_le (lk := (lkS (T ru) (M (28 + i_2)) (M 2 0) (M 2 0) (M 2 1) (M 2 2))) (seed := sd) d
                refine j_iload C dX9_chance_85 rfl ?_
                refine j_i2l C dX9_chance_87 ?_
                refine j_iload_n C dX9_chance_88 rfl rfl ?_
                refine j_i2l C dX9_chance_89 ?_
                refine j_iload C dX9_chance_90 rfl ?_
                refine j_callls C (c_X9_lowest _ _ _ _ _ _ _ (chS (lkS (T ru) (M (28 + i_2)) (M 2 0) (M 2 0) (M 2 1) (M 2 2)) sd d) d (nI_l (by omega)) (nI_l (by omega)) hle (by omega) (by omega)) dX9_chance_92 jm_RX9_191 ⟨by decide, by decide, by decide, by decide⟩ rfl (Nat.le_of_ble_eq_true rfl) (fun r z hz => ?_)
                obtain ⟨hr, hz⟩ := hz; have hr := hr.symm; have hz := hz.symm; subst hr; subst hz
                refine hret _ _ _ _ dX9_chance_95 ?_
                refine ok_pos ⟨⟨(nI_0le hi_2 (by omega)).1, by rw [hX.1.1]; exact (nI_0le hi_2 (by omega)).2⟩, (by simp only [Int32.lt_iff_toInt_lt, Int32.le_iff_toInt_le, ← Int32.toInt_inj, Int32.reduceToInt, e_d] at b_1q b_2q ⊢; omega), b_w⟩ ?_
                rw [nI_clamp (show i_2 < 2147483648 by omega), nI_clamp (show d < 2147483648 by omega)]
                exact ⟨rfl, fun k hk => zf_39 k (by unfold scX at hk; omega)⟩
              · skip
                have hd : d < qn := by simp only [Int32.lt_iff_toInt_lt, Int32.le_iff_toInt_le, ← Int32.toInt_inj, Int32.reduceToInt, e_d, e_qn] at c_4; omega
                refine j_iload C dX9_chance_54 rfl ?_
                refine j_bipush (v := 20) C dX9_chance_56 rfl ?_
                refine j_icmp_ge (tgt := 85) C dX9_chance_58 (by decide) (fun c_5 => ?_) (fun c_5 => ?_)
                · skip
                  exact absurd c_5 (nI_ge (show d < 20 by omega) (by decide))
                · skip
                  refine j_aload_n C dX9_chance_61 rfl rfl ?_
                  refine j_get C dX9_chance_62 jf_RX9_51 (wO cX0) rfl ?_
                  refine j_iload_n C dX9_chance_65 rfl rfl ?_
                  refine j_iload C dX9_chance_66 rfl ?_
                  refine j_iadd C dX9_chance_68 ?_
                  refine j_calliv C (c_X0_seenBy _ _ _ _ _ ) dX9_chance_69 jm_RX9_263 ⟨_, _, _, _, wO cCo, rfl, rfl⟩ ⟨by decide, by decide, by decide, by decide⟩ rfl (Nat.le_of_ble_eq_true rfl) (fun r_69 z_69 hz_69 => ?_)
                  obtain ⟨hr, hz⟩ := hz_69; have hz := hz.symm; subst hz; rw [seS_c 30 0 (fun e he => zl_39 e (by omega))] at hr; have hr := hr.symm; subst hr
                  refine j_iconst (v := -1) C dX9_chance_72 rfl ?_
                  refine j_icmp_eq (tgt := 79) C dX9_chance_73 (by decide) (fun c_6 => ?_) (fun c_6 => ?_)
                  · skip
                    refine j_iinc (lv' := [(7, _), (0, _), (1, _), (2, _), (3, _), (4, _), (6, _)]) (v := nI (d + 1)) C dX9_chance_79 rfl (j_inc1 d) (by decide) rfl ?_
                    refine j_goto (tgt := 48) C dX9_chance_82 (by decide) ?_
                    refine j_lv (lv' := [(0, _), (1, _), (2, _), (3, _), (4, _), (6, _), (7, _)]) rfl ?_
                    have h9 := ih (d + 1) (by omega) (by omega)
                    rw [chS] at h9
                    first
                      | (rw [if_pos (by assumption)] at h9; exact h9)
                      | (rw [if_neg (by assumption)] at h9; exact h9)
                  · skip
                    refine j_iinc (lv' := [(6, _), (0, _), (1, _), (2, _), (3, _), (4, _), (7, _)]) (v := nI ((chS (lkS (T ru) (M (28 + i_2)) (M 2 0) (M 2 0) (M 2 1) (M 2 2)) sd d) + 1)) C dX9_chance_76 rfl (j_inc1 (chS (lkS (T ru) (M (28 + i_2)) (M 2 0) (M 2 0) (M 2 1) (M 2 2)) sd d)) (by decide) rfl ?_
                    refine j_iinc (lv' := [(7, _), (6, _), (0, _), (1, _), (2, _), (3, _), (4, _)]) (v := nI (d + 1)) C dX9_chance_79 rfl (j_inc1 d) (by decide) rfl ?_
                    refine j_goto (tgt := 48) C dX9_chance_82 (by decide) ?_
                    refine j_lv (lv' := [(0, _), (1, _), (2, _), (3, _), (4, _), (6, _), (7, _)]) rfl ?_
                    have h9 := ih (d + 1) (by omega) (by omega)
                    rw [chS] at h9
                    first
                      | (rw [if_pos (by assumption)] at h9; exact h9)
                      | (rw [if_neg (by assumption)] at h9; exact h9)
          refine j_lv (lv' := [(0, _), (1, _), (2, _), (3, _), (4, _), (6, _), (7, _)]) rfl ?_
          exact L_48 (qn + 1) 0 (by omega) (by omega)
        · skip
          refine j_if_ne (tgt := 36) C dX9_chance_29 (by decide) (fun c => absurd (by decide) c) (fun _ => ?_)
          refine j_ldc2 C dX9_chance_32 jc_RX9_187 ?_
          refine hret _ _ _ _ dX9_chance_35 ?_
          first | exact ⟨(if_neg (fun h => hno_2 h.1)).symm, fkX_r⟩ | exact ⟨(if_neg (fun h => by have := h.2.1; simp only [Int32.lt_iff_toInt_lt, Int32.le_iff_toInt_le, ← Int32.toInt_inj, Int32.reduceToInt] at *; omega)).symm, fkX_r⟩ | exact ⟨(if_neg (fun h => b_w h.2.2)).symm, fkX_r⟩
  · skip
    refine j_astoreN (lv' := [(5, _), (0, _), (1, _), (2, _), (3, _), (4, _)]) C dX9_chance_5 (by decide) rfl ?_
    refine j_aloadN C dX9_chance_7 rfl ?_
    refine j_ifnullN (tgt := 32) C dX9_chance_9 (by decide) ?_
    refine j_ldc2 C dX9_chance_32 jc_RX9_187 ?_
    refine hret _ _ _ _ dX9_chance_35 ?_
    first | exact ⟨(if_neg (fun h => hno_2 h.1)).symm, fkX_r⟩ | exact ⟨(if_neg (fun h => by have := h.2.1; simp only [Int32.lt_iff_toInt_lt, Int32.le_iff_toInt_le, ← Int32.toInt_inj, Int32.reduceToInt] at *; omega)).symm, fkX_r⟩ | exact ⟨(if_neg (fun h => b_w h.2.2)).symm, fkX_r⟩
