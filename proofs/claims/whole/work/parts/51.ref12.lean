set_option maxHeartbeats 4000000 in
set_option maxRecDepth 100000 in
theorem c_X10_firstOther (l : Launch) (g : jG) (a : Nat → Nat) (x : mS) (s : Int32) (p : Int32) (m t ru : Nat) (B : Nat → Nat → Int32) (N : Nat → Nat) (hX : inM x m t ru B N) (i sn sz : Nat) (hp : p = nI i) (hi : i < m) (hs : s = nI sn) (hsn : sn < 4) (hsz : x.1 14 sn = nI sz) (hz40 : sz ≤ 30) : Ci l g yX10_firstOther cX10_firstOther 4 .int 44 978 0 0 (mW g a) [.ref (a 0), .int s, .int p] x (fun r z => r = osS (fun j => x.1 15 (40 * sn + j)) (whS (tM B N ru) (gV x i) (x.1 4 0)) sz 0 ∧ mK x z) := by
  refine mk_i (by decide +kernel) rfl (fun KK hKl hKg C hin hret => ?_)
  subst hKl; subst hKg
  refine j_lv (lv' := [(0, _), (1, _), (2, _)]) rfl ?_
  subst hp; subst hs
  refine j_aload_n C dX10_firstOther_0 rfl rfl ?_
  refine j_iload_n C dX10_firstOther_1 rfl rfl ?_
  refine j_callvv C (c_X10_gathers _ _ _ _ _ m t ru B N hX i rfl hi) dX10_firstOther_2 jm_RX10_342 ⟨_, _, _, _, wO mO, rfl, rfl⟩ ⟨by decide, by decide, by decide, by decide⟩ rfl (Nat.le_of_ble_eq_true rfl) (fun z_2 hz_2 => ?_)
  obtain ⟨hK_2, hw_2, hl_2⟩ := hz_2
  refine j_iconst (v := 0) C dX10_firstOther_5 rfl ?_
  refine j_istore_n (lv' := [(3, _), (0, _), (1, _), (2, _)]) C dX10_firstOther_6 rfl (by decide) rfl ?_
  have L_7 : ∀ k : Nat, ∀ (d : Nat), d ≤ sz → sz < d + k → (osS (fun j => x.1 15 (40 * sn + j)) (whS (tM B N ru) (gV x i) (x.1 4 0)) sz 0 = osS (fun j => x.1 15 (40 * sn + j)) (whS (tM B N ru) (gV x i) (x.1 4 0)) (sz - d) d) → J KK (mW (kG KK) a) 0 0 z_2 [(0, .ref (a 0)), (1, .int (nI sn)), (2, .int (nI i)), (3, .int (nI d))] 7 [] := by
    intro k
    induction k with
    | zero => intro d h1 hk ho; omega
    | succ k ih =>
      intro d h1 hk ho
      have e_d : (nI d).toInt = d := nI_toInt (by omega); have e_sz : (nI sz).toInt = sz := nI_toInt (by omega)
      have h14 : z_2.1 14 sn = nI sz := by rw [hK_2.1 14 (by decide) (by decide) (by decide)]; exact hsz
      refine j_iload_n C dX10_firstOther_7 rfl rfl ?_
      refine j_aload_n C dX10_firstOther_8 rfl rfl ?_
      refine j_get C dX10_firstOther_9 jf_RX10_57 (wO mO) rfl ?_
      refine j_iload_n C dX10_firstOther_12 rfl rfl ?_
      refine j_iald C (sn) dX10_firstOther_13 (wA mA14) (rfl) (hsn) (by decide) ?_
      refine j_icmp_ge (tgt := 45) C dX10_firstOther_14 (by decide) (fun c_14 => ?_) (fun c_14 => ?_)
      · skip
        have hd : sz - d = 0 := by rw [h14] at c_14; simp only [Int32.lt_iff_toInt_lt, Int32.le_iff_toInt_le, ← Int32.toInt_inj, Int32.reduceToInt, e_d, e_sz] at c_14; omega
        refine j_iconst (v := -1) C dX10_firstOther_45 rfl ?_
        refine hret _ _ _ _ dX10_firstOther_46 rfl ?_
        exact ⟨by rw [ho, hd]; rfl, hK_2⟩
      · skip
        have hd : d < sz := by rw [h14] at c_14; simp only [Int32.lt_iff_toInt_lt, Int32.le_iff_toInt_le, ← Int32.toInt_inj, Int32.reduceToInt, e_d, e_sz] at c_14; omega
        refine j_aload_n C dX10_firstOther_17 rfl rfl ?_
        refine j_get C dX10_firstOther_18 jf_RX10_32 (wO mO) rfl ?_
        refine j_iload_n C dX10_firstOther_21 rfl rfl ?_
        refine j_iald C (d) dX10_firstOther_22 (wA mA7) (rfl) (by omega) (by decide) ?_
        refine j_aload_n C dX10_firstOther_23 rfl rfl ?_
        refine j_get C dX10_firstOther_24 jf_RX10_60 (wO mO) rfl ?_
        refine j_bipush (v := 40) C dX10_firstOther_27 rfl ?_
        refine j_iload_n C dX10_firstOther_29 rfl rfl ?_
        refine j_imul C dX10_firstOther_30 ?_
        refine j_iload_n C dX10_firstOther_31 rfl rfl ?_
        refine j_iadd C dX10_firstOther_32 ?_
        refine j_iald C (40 * sn + d) dX10_firstOther_33 (wA mA15) ((congrArg (· + nI d) (pk_mul 40 sn)).trans (nI_add _ _)) (by omega) (by decide) ?_
        refine j_icmp_eq (tgt := 39) C dX10_firstOther_34 (by decide) (fun c_34 => ?_) (fun c_34 => ?_)
        · skip
          have heq : (fun j => x.1 15 (40 * sn + j)) d = whS (tM B N ru) (gV x i) (x.1 4 0) d := by rw [hw_2 d (by omega), hK_2.1 15 (by decide) (by decide) (by decide)] at c_34; exact c_34.symm
          refine j_iinc (lv' := [(3, _), (0, _), (1, _), (2, _)]) (v := nI (d + 1)) C dX10_firstOther_39 rfl (j_inc1 d) (by decide) rfl ?_
          refine j_goto (tgt := 7) C dX10_firstOther_42 (by decide) ?_
          refine j_lv (lv' := [(0, _), (1, _), (2, _), (3, _)]) rfl ?_
          obtain ⟨m9, hm9⟩ : ∃ m9, sz - d = m9 + 1 := ⟨sz - d - 1, by omega⟩
          exact ih (d + 1) (by omega) (by omega) (by rw [ho, hm9, show sz - (d + 1) = m9 by omega, osS, if_pos heq])
        · skip
          have hne : ¬ (fun j => x.1 15 (40 * sn + j)) d = whS (tM B N ru) (gV x i) (x.1 4 0) d := fun h => c_34 (by rw [hw_2 d (by omega), hK_2.1 15 (by decide) (by decide) (by decide)]; exact h.symm)
          refine j_iload_n C dX10_firstOther_37 rfl rfl ?_
          refine hret _ _ _ _ dX10_firstOther_38 rfl ?_
          refine ⟨?_, hK_2⟩
          obtain ⟨m9, hm9⟩ : ∃ m9, sz - d = m9 + 1 := ⟨sz - d - 1, by omega⟩
          rw [ho, hm9, osS, if_neg hne]
  refine j_lv (lv' := [(0, _), (1, _), (2, _), (3, _)]) rfl ?_
  exact L_7 (sz + 1) 0 (by omega) (by omega) rfl
set_option maxHeartbeats 4000000 in
set_option maxRecDepth 100000 in
theorem c_X10_tells (l : Launch) (g : jG) (a : Nat → Nat) (x : mS) (s : Int32) (p : Int32) (w : Int32) (m t ru : Nat) (B : Nat → Nat → Int32) (N : Nat → Nat) (hX : inM x m t ru B N) (h40 : ∀ i, i < 4 → ¬ x.1 12 i = 0 → ∃ sz, sz ≤ 40 ∧ x.1 14 i = nI sz) : Ci l g yX10_tells cX10_tells 9 .int 45 1001 0 0 (mW g a) [.ref (a 0), .int s, .int p, .int w] x (fun r z => r = (if (0 ≤ s ∧ s < 4) ∧ (0 ≤ p ∧ p < x.1 0 10) ∧ (0 ≤ w ∧ w ≤ 5) then (if x.1 12 s.toNatClampNeg = 0 then -11 else if 30 < x.1 14 s.toNatClampNeg then -2 else if w = 0 then (osS (fun j => x.1 15 (40 * s.toNatClampNeg + j)) (whS (tM B N ru) (gV x p.toNatClampNeg) (x.1 4 0)) (x.1 14 s.toNatClampNeg).toNatClampNeg 0) else tlS (fun v => osS (fun j => x.1 15 (40 * s.toNatClampNeg + j)) (whS (if w = 5 then tM B N v else (tM B N ru)) (chR (gV x p.toNatClampNeg) w v) (x.1 4 0)) (x.1 14 s.toNatClampNeg).toNatClampNeg 0) (trS w t)) else -2) ∧ mK x z) := by
  refine mk_i (by decide +kernel) rfl (fun KK hKl hKg C hin hret => ?_)
  subst hKl; subst hKg
  refine j_lv (lv' := [(0, _), (1, _), (2, _), (3, _)]) rfl ?_
  have hm6 := hX.1.2
  refine j_iload_n C dX10_tells_0 rfl rfl ?_
  refine j_callis C (c_X10_isSheet _ _ _ _ _ ) dX10_tells_1 jm_RX10_365 ⟨by decide, by decide, by decide, by decide⟩ rfl (Nat.le_of_ble_eq_true rfl) (fun r z hz => ?_)
  obtain ⟨hb, hz⟩ := hz; have hz := hz.symm; subst hz
  rcases hb with ⟨rfl, b_1⟩ | ⟨rfl, b_1⟩
  · skip
    obtain ⟨sn, hsn, rfl⟩ := in_of (B := 4) b_1 rfl
    refine j_if_eq (tgt := 27) C dX10_tells_4 (by decide) (fun c => absurd c (by decide)) (fun _ => ?_)
    refine j_aload_n C dX10_tells_7 rfl rfl ?_
    refine j_iload_n C dX10_tells_8 rfl rfl ?_
    refine j_calliv C (c_X10_isGlove _ _ _ _ _ m hX.1) dX10_tells_9 jm_RX10_79 ⟨_, _, _, _, wO mO, rfl, rfl⟩ ⟨by decide, by decide, by decide, by decide⟩ rfl (Nat.le_of_ble_eq_true rfl) (fun r z hz => ?_)
    obtain ⟨hb, hz⟩ := hz; have hz := hz.symm; subst hz
    rcases hb with ⟨rfl, b_9⟩ | ⟨rfl, b_9⟩
    · skip
      obtain ⟨i, hi, rfl⟩ := in_of (B := m) b_9 hX.1.1 (by omega)
      have hi6 : i < 6 := by omega
      refine j_if_eq (tgt := 27) C dX10_tells_12 (by decide) (fun c => absurd c (by decide)) (fun _ => ?_)
      refine j_iload_n C dX10_tells_15 rfl rfl ?_
      refine j_i2l C dX10_tells_16 ?_
      refine j_lconst (v := 0) C dX10_tells_17 rfl ?_
      refine j_ldc2 C dX10_tells_18 jc_RX10_98 ?_
      refine j_callis C (c_X10_in _ _ _ _ _ _ _ ) dX10_tells_21 jm_RX10_73 ⟨by decide, by decide, by decide, by decide⟩ rfl (Nat.le_of_ble_eq_true rfl) (fun r z hz => ?_)
      obtain ⟨hb, hz⟩ := hz; have hz := hz.symm; subst hz
      rcases hb with ⟨rfl, b_21⟩ | ⟨rfl, b_21⟩
      · skip
        have hc_21 : 0 ≤ w ∧ w < 6 := by simp only [Int32.lt_iff_toInt_lt, Int32.le_iff_toInt_le, ← Int32.toInt_inj, Int32.reduceToInt, Int64.lt_iff_toInt_lt, Int64.le_iff_toInt_le, Int32.toInt_toInt64, Int64.reduceToInt] at b_21 ⊢; omega
        obtain ⟨wn, hwn, rfl⟩ := in_of (B := 6) hc_21 rfl
        refine j_if_ne (tgt := 30) C dX10_tells_24 (by decide) (fun _ => ?_) (fun c => absurd c (by decide))
        refine j_aload_n C dX10_tells_30 rfl rfl ?_
        refine j_get C dX10_tells_31 jf_RX10_50 (wO mO) rfl ?_
        refine j_iload_n C dX10_tells_34 rfl rfl ?_
        refine j_zald C (sn) dX10_tells_35 (wA mA12) (rfl) (hsn) (by decide) ?_
        refine j_if_ne (tgt := 42) C dX10_tells_36 (by decide) (fun c_36 => ?_) (fun c_36 => ?_)
        · skip
          obtain ⟨sz, hsz, esz⟩ := h40 sn hsn c_36
          have e_sz : (nI sz).toInt = sz := nI_toInt (by omega)
          have e_wn : (nI wn).toInt = wn := nI_toInt (by omega)
          refine j_aload_n C dX10_tells_42 rfl rfl ?_
          refine j_get C dX10_tells_43 jf_RX10_57 (wO mO) rfl ?_
          refine j_iload_n C dX10_tells_46 rfl rfl ?_
          refine j_iald C (sn) dX10_tells_47 (wA mA14) (rfl) (hsn) (by decide) ?_
          refine j_bipush (v := 30) C dX10_tells_48 rfl ?_
          refine j_icmp_le (tgt := 56) C dX10_tells_50 (by decide) (fun c_50 => ?_) (fun c_50 => ?_)
          · skip
            have hz30 : sz ≤ 30 := by rw [esz] at c_50; simp only [Int32.lt_iff_toInt_lt, Int32.le_iff_toInt_le, ← Int32.toInt_inj, Int32.reduceToInt, e_sz] at c_50; omega
            refine j_iload_n C dX10_tells_56 rfl rfl ?_
            refine j_if_ne (tgt := 67) C dX10_tells_57 (by decide) (fun c_57 => ?_) (fun c_57 => ?_)
            · skip
              have hw0 : ¬ wn = 0 := fun h => c_57 (by rw [h]; rfl)
              refine j_iload_n C dX10_tells_67 rfl rfl ?_
              refine j_iconst (v := 1) C dX10_tells_68 rfl ?_
              refine j_icmp_ne (tgt := 77) C dX10_tells_69 (by decide) (fun c_69 => ?_) (fun c_69 => ?_)
              · skip
                have hw1 : ¬ wn = 1 := fun h => c_69 (by rw [h]; rfl)
                refine j_iload_n C dX10_tells_77 rfl rfl ?_
                refine j_iconst (v := 2) C dX10_tells_78 rfl ?_
                refine j_icmp_ne (tgt := 86) C dX10_tells_79 (by decide) (fun c_79 => ?_) (fun c_79 => ?_)
                · skip
                  have hw2 : ¬ wn = 2 := fun h => c_79 (by rw [h]; rfl)
                  refine j_iload_n C dX10_tells_86 rfl rfl ?_
                  refine j_iconst (v := 3) C dX10_tells_87 rfl ?_
                  refine j_icmp_ne (tgt := 95) C dX10_tells_88 (by decide) (fun c_88 => ?_) (fun c_88 => ?_)
                  · skip
                    have hw3 : ¬ wn = 3 := fun h => c_88 (by rw [h]; rfl)
                    refine j_iload_n C dX10_tells_95 rfl rfl ?_
                    refine j_iconst (v := 4) C dX10_tells_96 rfl ?_
                    refine j_icmp_ne (tgt := 104) C dX10_tells_97 (by decide) (fun c_97 => ?_) (fun c_97 => ?_)
                    · skip
                      have hw4 : ¬ wn = 4 := fun h => c_97 (by rw [h]; rfl)
                      have hwn : wn = 5 := by omega
                      subst hwn
                      refine j_bipush (v := 9) C dX10_tells_104 rfl ?_
                      refine j_istore (lv' := [(4, _), (0, _), (1, _), (2, _), (3, _)]) C dX10_tells_106 (by decide) rfl ?_
                      refine j_iload C dX10_tells_108 rfl ?_
                      refine j_bipush (v := 9) C dX10_tells_110 rfl ?_
                      refine j_icmp_ne (tgt := 122) C dX10_tells_112 (by decide) (fun c => absurd (by decide) c) (fun _ => ?_)
                      refine j_aload_n C dX10_tells_115 rfl rfl ?_
                      refine j_get C dX10_tells_116 jf_RX10_95 (wO mO) rfl ?_
                      refine j_goto (tgt := 129) C dX10_tells_119 (by decide) ?_
                      refine j_istore (lv' := [(5, _), (4, _), (0, _), (1, _), (2, _), (3, _)]) C dX10_tells_129 (by decide) rfl ?_
                      refine j_iload_n C dX10_tells_131 rfl rfl ?_
                      refine j_iconst (v := 1) C dX10_tells_132 rfl ?_
                      refine j_icmp_ne (tgt := 141) C dX10_tells_133 (by decide) (fun c_133 => ?_) (fun c_133 => ?_)
                      · skip
                        skip
                        refine j_iload_n C dX10_tells_141 rfl rfl ?_
                        refine j_iconst (v := 2) C dX10_tells_142 rfl ?_
                        refine j_icmp_ne (tgt := 151) C dX10_tells_143 (by decide) (fun c_143 => ?_) (fun c_143 => ?_)
                        · skip
                          skip
                          refine j_iload_n C dX10_tells_151 rfl rfl ?_
                          refine j_iconst (v := 3) C dX10_tells_152 rfl ?_
                          refine j_icmp_ne (tgt := 161) C dX10_tells_153 (by decide) (fun c_153 => ?_) (fun c_153 => ?_)
                          · skip
                            skip
                            refine j_iload_n C dX10_tells_161 rfl rfl ?_
                            refine j_iconst (v := 4) C dX10_tells_162 rfl ?_
                            refine j_icmp_ne (tgt := 170) C dX10_tells_163 (by decide) (fun c_163 => ?_) (fun c_163 => ?_)
                            · skip
                              skip
                              refine j_aload_n C dX10_tells_170 rfl rfl ?_
                              refine j_get C dX10_tells_171 jf_RX10_67 (wO mO) rfl ?_
                              refine j_istore (lv' := [(6, _), (5, _), (4, _), (0, _), (1, _), (2, _), (3, _)]) C dX10_tells_174 (by decide) rfl ?_
                              refine j_iconst (v := 0) C dX10_tells_176 rfl ?_
                              refine j_istore (lv' := [(7, _), (6, _), (5, _), (4, _), (0, _), (1, _), (2, _), (3, _)]) C dX10_tells_177 (by decide) rfl ?_
                              refine j_iconst (v := 0) C dX10_tells_179 rfl ?_
                              refine j_istore (lv' := [(8, _), (7, _), (6, _), (5, _), (4, _), (0, _), (1, _), (2, _), (3, _)]) C dX10_tells_180 (by decide) rfl ?_
                              have L_182 : ∀ k : Nat, ∀ (v : Nat) (x' : mS), v ≤ t → t < v + k → ltF x x' (sjS 5) i → J KK (mW (kG KK) a) 0 0 x' [(0, .ref (a 0)), (1, .int (nI sn)), (2, .int (nI i)), (3, .int (nI 5)), (4, .int 9), (5, .int (x.1 0 4)), (6, .int (nI t)), (7, .int (tlS (fun v => osS (fun j => x.1 15 (40 * sn + j)) (whS (if ((nI 5) : Int32) = 5 then tM B N v else (tM B N ru)) (chR (gV x i) (nI 5) v) (x.1 4 0)) (x.1 14 sn).toNatClampNeg 0) v)), (8, .int (nI v))] 182 [] := by
                                intro k
                                induction k with
                                | zero => intro v x' h1 hk hF; omega
                                | succ k ih =>
                                  intro v x' h1 hk hF
                                  have ht6 : t ≤ 6 := hX.2.1.2.2
                                  have e_v : (nI v).toInt = v := nI_toInt (by omega)
                                  have e_t : (nI t).toInt = t := nI_toInt (by omega)
                                  refine j_iload C dX10_tells_182 rfl ?_
                                  refine j_iload C dX10_tells_184 rfl ?_
                                  refine j_icmp_ge (tgt := 227) C dX10_tells_186 (by decide) (fun c_186 => ?_) (fun c_186 => ?_)
                                  · skip
                                    have hv : v = t := by simp only [Int32.lt_iff_toInt_lt, Int32.le_iff_toInt_le, ← Int32.toInt_inj, Int32.reduceToInt, e_v, e_t] at c_186; omega
                                    refine j_aload_n C dX10_tells_227 rfl rfl ?_
                                    refine j_iload C dX10_tells_228 rfl ?_
                                    refine j_iload_n C dX10_tells_230 rfl rfl ?_
                                    refine j_iload C dX10_tells_231 rfl ?_
                                    refine j_callvv C (c_X10_lays _ _ _ _ _ _ _ 9 i rfl (by decide) (fun _ => rfl) (by omega)) dX10_tells_233 jm_RX10_91 ⟨_, _, _, _, wO mO, rfl, rfl⟩ ⟨by decide, by decide, by decide, by decide⟩ rfl (Nat.le_of_ble_eq_true rfl) (fun z_233 hz_233 => ?_)
                                    have hz9 := hz_233.symm; subst hz9
                                    have hKz : mK x (lyX x' 9 i (x.1 0 4)) := lt_b (w := 5) (by decide) hF rfl
                                    refine j_iload C dX10_tells_236 rfl ?_
                                    refine hret _ _ _ _ dX10_tells_238 rfl ?_
                                    refine ⟨?_, hKz⟩
                                    rw [if_pos ⟨⟨(nI_0le hsn (by decide)).1, (nI_0le (n := 4) hsn (by decide)).2⟩, ⟨(nI_0le hi (by omega)).1, by rw [hX.1.1]; exact (nI_0le hi (by omega)).2⟩, (by have := hc_21; simp only [Int32.lt_iff_toInt_lt, Int32.le_iff_toInt_le, ← Int32.toInt_inj, Int32.reduceToInt] at this ⊢; omega)⟩, nI_clamp (show sn < 2147483648 by omega), nI_clamp (show i < 2147483648 by omega), if_neg c_36, if_neg (by rw [esz]; simp only [Int32.lt_iff_toInt_lt, Int32.le_iff_toInt_le, ← Int32.toInt_inj, Int32.reduceToInt, e_sz]; omega), if_neg (by decide)]
                                    subst hv
                                    rfl
                                  · skip
                                    have hv : v < t := by simp only [Int32.lt_iff_toInt_lt, Int32.le_iff_toInt_le, ← Int32.toInt_inj, Int32.reduceToInt, e_v, e_t] at c_186; omega
                                    refine j_aload_n C dX10_tells_189 rfl rfl ?_
                                    refine j_iload C dX10_tells_190 rfl ?_
                                    refine j_iload_n C dX10_tells_192 rfl rfl ?_
                                    refine j_iload C dX10_tells_193 rfl ?_
                                    refine j_callvv C (c_X10_lays _ _ _ _ _ _ _ 9 i rfl (by decide) (fun _ => rfl) (by omega)) dX10_tells_195 jm_RX10_91 ⟨_, _, _, _, wO mO, rfl, rfl⟩ ⟨by decide, by decide, by decide, by decide⟩ rfl (Nat.le_of_ble_eq_true rfl) (fun z_195 hz_195 => ?_)
                                    have hz9 := hz_195.symm; subst hz9
                                    have hF2 : ltF x (lyX x' 9 i (nI v)) (sjS 5) i := ltF_l hF (by decide)
                                    have hX2 : inM (lyX x' 9 i (nI v)) m t (if 5 = 5 then v else ru) B N := lt_in (w := 5) hX (by decide) hF ⟨fun h => by omega, fun h => by omega⟩
                                    have hg2 : (∀ j, j < 5 → gV (lyX x' 9 i (nI v)) i j = chR (gV x i) (nI 5) v j) ∧ (lyX x' 9 i (nI v)).1 4 = x.1 4 := lt_g (w := 5) (v := v) (by decide) hF
                                    refine j_iload C dX10_tells_198 rfl ?_
                                    refine j_aload_n C dX10_tells_200 rfl rfl ?_
                                    refine j_iload_n C dX10_tells_201 rfl rfl ?_
                                    refine j_iload_n C dX10_tells_202 rfl rfl ?_
                                    refine j_calliv C (c_X10_firstOther _ _ _ _ _ _ m t (if 5 = 5 then v else ru) B N hX2 i sn sz rfl hi rfl hsn (by rw [hF2.1 14 (by decide) (by decide) (by decide) (by decide) (by decide)]; exact esz) hz30) dX10_tells_203 jm_RX10_368 ⟨_, _, _, _, wO mO, rfl, rfl⟩ ⟨by decide, by decide, by decide, by decide⟩ rfl (Nat.le_of_ble_eq_true rfl) (fun r_203 z_203 hz_203 => ?_)
                                    obtain ⟨hr_203, hK_203⟩ := hz_203
                                    rw [whS_c hg2.1, hF2.1 15 (by decide) (by decide) (by decide) (by decide) (by decide)] at hr_203
                                    have hs4 : (lyX x' 9 i (nI v)).1 4 = x.1 4 := hg2.2
                                    rw [hs4] at hr_203
                                    refine j_iconst (v := -1) C dX10_tells_206 rfl ?_
                                    refine j_icmp_ne (tgt := 214) C dX10_tells_207 (by decide) (fun c_207 => ?_) (fun c_207 => ?_)
                                    · skip
                                      have hcc : ¬ (fun v => osS (fun j => x.1 15 (40 * sn + j)) (whS (if ((nI 5) : Int32) = 5 then tM B N v else (tM B N ru)) (chR (gV x i) (nI 5) v) (x.1 4 0)) (x.1 14 sn).toNatClampNeg 0) v = -1 := by
                                        have e9 : (fun v => osS (fun j => x.1 15 (40 * sn + j)) (whS (if ((nI 5) : Int32) = 5 then tM B N v else (tM B N ru)) (chR (gV x i) (nI 5) v) (x.1 4 0)) (x.1 14 sn).toNatClampNeg 0) v = r_203 := by rw [hr_203, esz, nI_clamp (show sz < 2147483648 by omega)]; rfl
                                        rw [e9]; exact c_207
                                      refine j_iconst (v := 0) C dX10_tells_214 rfl ?_
                                      refine j_iload C dX10_tells_215 rfl ?_
                                      refine j_ishl C dX10_tells_217 ?_
                                      refine j_ior C dX10_tells_218 ?_
                                      refine j_istore (lv' := [(7, _), (0, _), (1, _), (2, _), (3, _), (4, _), (5, _), (6, _), (8, _)]) C dX10_tells_219 (by decide) rfl ?_
                                      refine j_iinc (lv' := [(8, _), (7, _), (0, _), (1, _), (2, _), (3, _), (4, _), (5, _), (6, _)]) (v := nI (v + 1)) C dX10_tells_221 rfl (j_inc1 v) (by decide) rfl ?_
                                      refine j_goto (tgt := 182) C dX10_tells_224 (by decide) ?_
                                      refine j_lv (lv' := [(0, _), (1, _), (2, _), (3, _), (4, _), (5, _), (6, _), (7, _), (8, _)]) rfl ?_
                                      have h9 := ih (v + 1) z_203 (by omega) (by omega) (ltF_k hF2 hK_203)
                                      rw [tlS] at h9
                                      rw [if_neg hcc] at h9
                                      rw [or_0]
                                      exact h9
                                    · skip
                                      have hcc : (fun v => osS (fun j => x.1 15 (40 * sn + j)) (whS (if ((nI 5) : Int32) = 5 then tM B N v else (tM B N ru)) (chR (gV x i) (nI 5) v) (x.1 4 0)) (x.1 14 sn).toNatClampNeg 0) v = -1 := by
                                        have e9 : (fun v => osS (fun j => x.1 15 (40 * sn + j)) (whS (if ((nI 5) : Int32) = 5 then tM B N v else (tM B N ru)) (chR (gV x i) (nI 5) v) (x.1 4 0)) (x.1 14 sn).toNatClampNeg 0) v = r_203 := by rw [hr_203, esz, nI_clamp (show sz < 2147483648 by omega)]; rfl
                                        rw [e9]; exact c_207
                                      refine j_iconst (v := 1) C dX10_tells_210 rfl ?_
                                      refine j_goto (tgt := 215) C dX10_tells_211 (by decide) ?_
                                      refine j_iload C dX10_tells_215 rfl ?_
                                      refine j_ishl C dX10_tells_217 ?_
                                      refine j_ior C dX10_tells_218 ?_
                                      refine j_istore (lv' := [(7, _), (0, _), (1, _), (2, _), (3, _), (4, _), (5, _), (6, _), (8, _)]) C dX10_tells_219 (by decide) rfl ?_
                                      refine j_iinc (lv' := [(8, _), (7, _), (0, _), (1, _), (2, _), (3, _), (4, _), (5, _), (6, _)]) (v := nI (v + 1)) C dX10_tells_221 rfl (j_inc1 v) (by decide) rfl ?_
                                      refine j_goto (tgt := 182) C dX10_tells_224 (by decide) ?_
                                      refine j_lv (lv' := [(0, _), (1, _), (2, _), (3, _), (4, _), (5, _), (6, _), (7, _), (8, _)]) rfl ?_
                                      have h9 := ih (v + 1) z_203 (by omega) (by omega) (ltF_k hF2 hK_203)
                                      rw [tlS] at h9
                                      rw [if_pos hcc] at h9
                                      exact h9
                              refine j_lv (lv' := [(0, _), (1, _), (2, _), (3, _), (4, _), (5, _), (6, _), (7, _), (8, _)]) rfl ?_
                              have et : x.1 0 3 = nI t := hX.2.1.1
                              rw [et]
                              exact L_182 (t + 1) 0 x (by omega) (by omega) ltF_r
                            · skip
                              exact absurd c_163 (by decide)
                          · skip
                            exact absurd c_153 (by decide)
                        · skip
                          exact absurd c_143 (by decide)
                      · skip
                        exact absurd c_133 (by decide)
                    · skip
                      have hwn : wn = 4 := by simp only [Int32.lt_iff_toInt_lt, Int32.le_iff_toInt_le, ← Int32.toInt_inj, Int32.reduceToInt, e_wn] at c_97; omega
                      subst hwn
                      refine j_iconst (v := 5) C dX10_tells_100 rfl ?_
                      refine j_goto (tgt := 106) C dX10_tells_101 (by decide) ?_
                      refine j_istore (lv' := [(4, _), (0, _), (1, _), (2, _), (3, _)]) C dX10_tells_106 (by decide) rfl ?_
                      refine j_iload C dX10_tells_108 rfl ?_
                      refine j_bipush (v := 9) C dX10_tells_110 rfl ?_
                      refine j_icmp_ne (tgt := 122) C dX10_tells_112 (by decide) (fun _ => ?_) (fun c => absurd c (by decide))
                      refine j_aload_n C dX10_tells_122 rfl rfl ?_
                      refine j_iload_n C dX10_tells_123 rfl rfl ?_
                      refine j_iload C dX10_tells_124 rfl ?_
                      refine j_calliv C (c_X10_told _ _ _ _ _ _ m hX.1) dX10_tells_126 jm_RX10_87 ⟨_, _, _, _, wO mO, rfl, rfl⟩ ⟨by decide, by decide, by decide, by decide⟩ rfl (Nat.le_of_ble_eq_true rfl) (fun r z hz => ?_)
                      obtain ⟨hr_126, hz9⟩ := hz
                      have hz9 := hz9.symm; subst hz9
                      have hv126 : r = x.1 6 (4 * i + 2) := by
                        rw [hr_126, if_pos ⟨by decide, Or.inr ⟨(nI_0le hi (by omega)).1, by rw [hX.1.1]; exact (nI_0le hi (by omega)).2⟩⟩, nI_clamp (show i < 2147483648 by omega)]
                        simp [tdS, gV]
                      subst hv126
                      refine j_istore (lv' := [(5, _), (4, _), (0, _), (1, _), (2, _), (3, _)]) C dX10_tells_129 (by decide) rfl ?_
                      refine j_iload_n C dX10_tells_131 rfl rfl ?_
                      refine j_iconst (v := 1) C dX10_tells_132 rfl ?_
                      refine j_icmp_ne (tgt := 141) C dX10_tells_133 (by decide) (fun c_133 => ?_) (fun c_133 => ?_)
                      · skip
                        skip
                        refine j_iload_n C dX10_tells_141 rfl rfl ?_
                        refine j_iconst (v := 2) C dX10_tells_142 rfl ?_
                        refine j_icmp_ne (tgt := 151) C dX10_tells_143 (by decide) (fun c_143 => ?_) (fun c_143 => ?_)
                        · skip
                          skip
                          refine j_iload_n C dX10_tells_151 rfl rfl ?_
                          refine j_iconst (v := 3) C dX10_tells_152 rfl ?_
                          refine j_icmp_ne (tgt := 161) C dX10_tells_153 (by decide) (fun c_153 => ?_) (fun c_153 => ?_)
                          · skip
                            skip
                            refine j_iload_n C dX10_tells_161 rfl rfl ?_
                            refine j_iconst (v := 4) C dX10_tells_162 rfl ?_
                            refine j_icmp_ne (tgt := 170) C dX10_tells_163 (by decide) (fun c_163 => ?_) (fun c_163 => ?_)
                            · skip
                              exact absurd rfl c_163
                            · skip
                              skip
                              refine j_iconst (v := 5) C dX10_tells_166 rfl ?_
                              refine j_goto (tgt := 174) C dX10_tells_167 (by decide) ?_
                              refine j_istore (lv' := [(6, _), (5, _), (4, _), (0, _), (1, _), (2, _), (3, _)]) C dX10_tells_174 (by decide) rfl ?_
                              refine j_iconst (v := 0) C dX10_tells_176 rfl ?_
                              refine j_istore (lv' := [(7, _), (6, _), (5, _), (4, _), (0, _), (1, _), (2, _), (3, _)]) C dX10_tells_177 (by decide) rfl ?_
                              refine j_iconst (v := 0) C dX10_tells_179 rfl ?_
                              refine j_istore (lv' := [(8, _), (7, _), (6, _), (5, _), (4, _), (0, _), (1, _), (2, _), (3, _)]) C dX10_tells_180 (by decide) rfl ?_
                              have L_182 : ∀ k : Nat, ∀ (v : Nat) (x' : mS), v ≤ 5 → 5 < v + k → ltF x x' (sjS 4) i → J KK (mW (kG KK) a) 0 0 x' [(0, .ref (a 0)), (1, .int (nI sn)), (2, .int (nI i)), (3, .int (nI 4)), (4, .int 5), (5, .int (x.1 6 (4 * i + 2))), (6, .int (nI 5)), (7, .int (tlS (fun v => osS (fun j => x.1 15 (40 * sn + j)) (whS (if ((nI 4) : Int32) = 5 then tM B N v else (tM B N ru)) (chR (gV x i) (nI 4) v) (x.1 4 0)) (x.1 14 sn).toNatClampNeg 0) v)), (8, .int (nI v))] 182 [] := by
                                intro k
                                induction k with
                                | zero => intro v x' h1 hk hF; omega
                                | succ k ih =>
                                  intro v x' h1 hk hF
                                  have ht6 : t ≤ 6 := hX.2.1.2.2
                                  have e_v : (nI v).toInt = v := nI_toInt (by omega)
                                  have e_t : (nI 5).toInt = 5 := nI_toInt (by omega)
                                  refine j_iload C dX10_tells_182 rfl ?_
                                  refine j_iload C dX10_tells_184 rfl ?_
                                  refine j_icmp_ge (tgt := 227) C dX10_tells_186 (by decide) (fun c_186 => ?_) (fun c_186 => ?_)
                                  · skip
                                    have hv : v = 5 := by simp only [Int32.lt_iff_toInt_lt, Int32.le_iff_toInt_le, ← Int32.toInt_inj, Int32.reduceToInt, e_v, e_t] at c_186; omega
                                    refine j_aload_n C dX10_tells_227 rfl rfl ?_
                                    refine j_iload C dX10_tells_228 rfl ?_
                                    refine j_iload_n C dX10_tells_230 rfl rfl ?_
                                    refine j_iload C dX10_tells_231 rfl ?_
                                    refine j_callvv C (c_X10_lays _ _ _ _ _ _ _ 5 i rfl (by decide) (fun _ => rfl) (by omega)) dX10_tells_233 jm_RX10_91 ⟨_, _, _, _, wO mO, rfl, rfl⟩ ⟨by decide, by decide, by decide, by decide⟩ rfl (Nat.le_of_ble_eq_true rfl) (fun z_233 hz_233 => ?_)
                                    have hz9 := hz_233.symm; subst hz9
                                    have hKz : mK x (lyX x' 5 i (x.1 6 (4 * i + 2))) := lt_b (w := 4) (by decide) hF rfl
                                    refine j_iload C dX10_tells_236 rfl ?_
                                    refine hret _ _ _ _ dX10_tells_238 rfl ?_
                                    refine ⟨?_, hKz⟩
                                    rw [if_pos ⟨⟨(nI_0le hsn (by decide)).1, (nI_0le (n := 4) hsn (by decide)).2⟩, ⟨(nI_0le hi (by omega)).1, by rw [hX.1.1]; exact (nI_0le hi (by omega)).2⟩, (by have := hc_21; simp only [Int32.lt_iff_toInt_lt, Int32.le_iff_toInt_le, ← Int32.toInt_inj, Int32.reduceToInt] at this ⊢; omega)⟩, nI_clamp (show sn < 2147483648 by omega), nI_clamp (show i < 2147483648 by omega), if_neg c_36, if_neg (by rw [esz]; simp only [Int32.lt_iff_toInt_lt, Int32.le_iff_toInt_le, ← Int32.toInt_inj, Int32.reduceToInt, e_sz]; omega), if_neg (by decide)]
                                    subst hv
                                    rfl
                                  · skip
                                    have hv : v < 5 := by simp only [Int32.lt_iff_toInt_lt, Int32.le_iff_toInt_le, ← Int32.toInt_inj, Int32.reduceToInt, e_v, e_t] at c_186; omega
                                    refine j_aload_n C dX10_tells_189 rfl rfl ?_
                                    refine j_iload C dX10_tells_190 rfl ?_
                                    refine j_iload_n C dX10_tells_192 rfl rfl ?_
                                    refine j_iload C dX10_tells_193 rfl ?_
                                    refine j_callvv C (c_X10_lays _ _ _ _ _ _ _ 5 i rfl (by decide) (fun _ => rfl) (by omega)) dX10_tells_195 jm_RX10_91 ⟨_, _, _, _, wO mO, rfl, rfl⟩ ⟨by decide, by decide, by decide, by decide⟩ rfl (Nat.le_of_ble_eq_true rfl) (fun z_195 hz_195 => ?_)
                                    have hz9 := hz_195.symm; subst hz9
                                    have hF2 : ltF x (lyX x' 5 i (nI v)) (sjS 4) i := ltF_l hF (by decide)
                                    have hX2 : inM (lyX x' 5 i (nI v)) m t (if 4 = 5 then v else ru) B N := lt_in (w := 4) hX (by decide) hF ⟨fun h => by omega, fun h => by omega⟩
                                    have hg2 : (∀ j, j < 5 → gV (lyX x' 5 i (nI v)) i j = chR (gV x i) (nI 4) v j) ∧ (lyX x' 5 i (nI v)).1 4 = x.1 4 := lt_g (w := 4) (v := v) (by decide) hF
                                    refine j_iload C dX10_tells_198 rfl ?_
                                    refine j_aload_n C dX10_tells_200 rfl rfl ?_
                                    refine j_iload_n C dX10_tells_201 rfl rfl ?_
                                    refine j_iload_n C dX10_tells_202 rfl rfl ?_
                                    refine j_calliv C (c_X10_firstOther _ _ _ _ _ _ m t (if 4 = 5 then v else ru) B N hX2 i sn sz rfl hi rfl hsn (by rw [hF2.1 14 (by decide) (by decide) (by decide) (by decide) (by decide)]; exact esz) hz30) dX10_tells_203 jm_RX10_368 ⟨_, _, _, _, wO mO, rfl, rfl⟩ ⟨by decide, by decide, by decide, by decide⟩ rfl (Nat.le_of_ble_eq_true rfl) (fun r_203 z_203 hz_203 => ?_)
                                    obtain ⟨hr_203, hK_203⟩ := hz_203
                                    rw [whS_c hg2.1, hF2.1 15 (by decide) (by decide) (by decide) (by decide) (by decide)] at hr_203
                                    have hs4 : (lyX x' 5 i (nI v)).1 4 = x.1 4 := hg2.2
                                    rw [hs4] at hr_203
                                    refine j_iconst (v := -1) C dX10_tells_206 rfl ?_
                                    refine j_icmp_ne (tgt := 214) C dX10_tells_207 (by decide) (fun c_207 => ?_) (fun c_207 => ?_)
                                    · skip
                                      have hcc : ¬ (fun v => osS (fun j => x.1 15 (40 * sn + j)) (whS (if ((nI 4) : Int32) = 5 then tM B N v else (tM B N ru)) (chR (gV x i) (nI 4) v) (x.1 4 0)) (x.1 14 sn).toNatClampNeg 0) v = -1 := by
                                        have e9 : (fun v => osS (fun j => x.1 15 (40 * sn + j)) (whS (if ((nI 4) : Int32) = 5 then tM B N v else (tM B N ru)) (chR (gV x i) (nI 4) v) (x.1 4 0)) (x.1 14 sn).toNatClampNeg 0) v = r_203 := by rw [hr_203, esz, nI_clamp (show sz < 2147483648 by omega)]; rfl
                                        rw [e9]; exact c_207
                                      refine j_iconst (v := 0) C dX10_tells_214 rfl ?_
                                      refine j_iload C dX10_tells_215 rfl ?_
                                      refine j_ishl C dX10_tells_217 ?_
                                      refine j_ior C dX10_tells_218 ?_
                                      refine j_istore (lv' := [(7, _), (0, _), (1, _), (2, _), (3, _), (4, _), (5, _), (6, _), (8, _)]) C dX10_tells_219 (by decide) rfl ?_
                                      refine j_iinc (lv' := [(8, _), (7, _), (0, _), (1, _), (2, _), (3, _), (4, _), (5, _), (6, _)]) (v := nI (v + 1)) C dX10_tells_221 rfl (j_inc1 v) (by decide) rfl ?_
                                      refine j_goto (tgt := 182) C dX10_tells_224 (by decide) ?_
                                      refine j_lv (lv' := [(0, _), (1, _), (2, _), (3, _), (4, _), (5, _), (6, _), (7, _), (8, _)]) rfl ?_
                                      have h9 := ih (v + 1) z_203 (by omega) (by omega) (ltF_k hF2 hK_203)
                                      rw [tlS] at h9
                                      rw [if_neg hcc] at h9
                                      rw [or_0]
                                      exact h9
                                    · skip
                                      have hcc : (fun v => osS (fun j => x.1 15 (40 * sn + j)) (whS (if ((nI 4) : Int32) = 5 then tM B N v else (tM B N ru)) (chR (gV x i) (nI 4) v) (x.1 4 0)) (x.1 14 sn).toNatClampNeg 0) v = -1 := by
                                        have e9 : (fun v => osS (fun j => x.1 15 (40 * sn + j)) (whS (if ((nI 4) : Int32) = 5 then tM B N v else (tM B N ru)) (chR (gV x i) (nI 4) v) (x.1 4 0)) (x.1 14 sn).toNatClampNeg 0) v = r_203 := by rw [hr_203, esz, nI_clamp (show sz < 2147483648 by omega)]; rfl
                                        rw [e9]; exact c_207
                                      refine j_iconst (v := 1) C dX10_tells_210 rfl ?_
                                      refine j_goto (tgt := 215) C dX10_tells_211 (by decide) ?_
                                      refine j_iload C dX10_tells_215 rfl ?_
                                      refine j_ishl C dX10_tells_217 ?_
                                      refine j_ior C dX10_tells_218 ?_
                                      refine j_istore (lv' := [(7, _), (0, _), (1, _), (2, _), (3, _), (4, _), (5, _), (6, _), (8, _)]) C dX10_tells_219 (by decide) rfl ?_
                                      refine j_iinc (lv' := [(8, _), (7, _), (0, _), (1, _), (2, _), (3, _), (4, _), (5, _), (6, _)]) (v := nI (v + 1)) C dX10_tells_221 rfl (j_inc1 v) (by decide) rfl ?_
                                      refine j_goto (tgt := 182) C dX10_tells_224 (by decide) ?_
                                      refine j_lv (lv' := [(0, _), (1, _), (2, _), (3, _), (4, _), (5, _), (6, _), (7, _), (8, _)]) rfl ?_
                                      have h9 := ih (v + 1) z_203 (by omega) (by omega) (ltF_k hF2 hK_203)
                                      rw [tlS] at h9
                                      rw [if_pos hcc] at h9
                                      exact h9
                              refine j_lv (lv' := [(0, _), (1, _), (2, _), (3, _), (4, _), (5, _), (6, _), (7, _), (8, _)]) rfl ?_
                              exact L_182 (5 + 1) 0 x (by omega) (by omega) ltF_r
                          · skip
                            exact absurd c_153 (by decide)
                        · skip
                          exact absurd c_143 (by decide)
                      · skip
                        exact absurd c_133 (by decide)
                  · skip
                    have hwn : wn = 3 := by simp only [Int32.lt_iff_toInt_lt, Int32.le_iff_toInt_le, ← Int32.toInt_inj, Int32.reduceToInt, e_wn] at c_88; omega
                    subst hwn
                    refine j_iconst (v := 4) C dX10_tells_91 rfl ?_
                    refine j_goto (tgt := 106) C dX10_tells_92 (by decide) ?_
                    refine j_istore (lv' := [(4, _), (0, _), (1, _), (2, _), (3, _)]) C dX10_tells_106 (by decide) rfl ?_
                    refine j_iload C dX10_tells_108 rfl ?_
                    refine j_bipush (v := 9) C dX10_tells_110 rfl ?_
                    refine j_icmp_ne (tgt := 122) C dX10_tells_112 (by decide) (fun _ => ?_) (fun c => absurd c (by decide))
                    refine j_aload_n C dX10_tells_122 rfl rfl ?_
                    refine j_iload_n C dX10_tells_123 rfl rfl ?_
                    refine j_iload C dX10_tells_124 rfl ?_
                    refine j_calliv C (c_X10_told _ _ _ _ _ _ m hX.1) dX10_tells_126 jm_RX10_87 ⟨_, _, _, _, wO mO, rfl, rfl⟩ ⟨by decide, by decide, by decide, by decide⟩ rfl (Nat.le_of_ble_eq_true rfl) (fun r z hz => ?_)
                    obtain ⟨hr_126, hz9⟩ := hz
                    have hz9 := hz9.symm; subst hz9
                    have hv126 : r = x.1 6 (4 * i + 1) := by
                      rw [hr_126, if_pos ⟨by decide, Or.inr ⟨(nI_0le hi (by omega)).1, by rw [hX.1.1]; exact (nI_0le hi (by omega)).2⟩⟩, nI_clamp (show i < 2147483648 by omega)]
                      simp [tdS, gV]
                    subst hv126
                    refine j_istore (lv' := [(5, _), (4, _), (0, _), (1, _), (2, _), (3, _)]) C dX10_tells_129 (by decide) rfl ?_
                    refine j_iload_n C dX10_tells_131 rfl rfl ?_
                    refine j_iconst (v := 1) C dX10_tells_132 rfl ?_
                    refine j_icmp_ne (tgt := 141) C dX10_tells_133 (by decide) (fun c_133 => ?_) (fun c_133 => ?_)
                    · skip
                      skip
                      refine j_iload_n C dX10_tells_141 rfl rfl ?_
                      refine j_iconst (v := 2) C dX10_tells_142 rfl ?_
                      refine j_icmp_ne (tgt := 151) C dX10_tells_143 (by decide) (fun c_143 => ?_) (fun c_143 => ?_)
                      · skip
                        skip
                        refine j_iload_n C dX10_tells_151 rfl rfl ?_
                        refine j_iconst (v := 3) C dX10_tells_152 rfl ?_
                        refine j_icmp_ne (tgt := 161) C dX10_tells_153 (by decide) (fun c_153 => ?_) (fun c_153 => ?_)
                        · skip
                          exact absurd rfl c_153
                        · skip
                          skip
                          refine j_bipush (v := 20) C dX10_tells_156 rfl ?_
                          refine j_goto (tgt := 174) C dX10_tells_158 (by decide) ?_
                          refine j_istore (lv' := [(6, _), (5, _), (4, _), (0, _), (1, _), (2, _), (3, _)]) C dX10_tells_174 (by decide) rfl ?_
                          refine j_iconst (v := 0) C dX10_tells_176 rfl ?_
                          refine j_istore (lv' := [(7, _), (6, _), (5, _), (4, _), (0, _), (1, _), (2, _), (3, _)]) C dX10_tells_177 (by decide) rfl ?_
                          refine j_iconst (v := 0) C dX10_tells_179 rfl ?_
                          refine j_istore (lv' := [(8, _), (7, _), (6, _), (5, _), (4, _), (0, _), (1, _), (2, _), (3, _)]) C dX10_tells_180 (by decide) rfl ?_
                          have L_182 : ∀ k : Nat, ∀ (v : Nat) (x' : mS), v ≤ 20 → 20 < v + k → ltF x x' (sjS 3) i → J KK (mW (kG KK) a) 0 0 x' [(0, .ref (a 0)), (1, .int (nI sn)), (2, .int (nI i)), (3, .int (nI 3)), (4, .int 4), (5, .int (x.1 6 (4 * i + 1))), (6, .int (nI 20)), (7, .int (tlS (fun v => osS (fun j => x.1 15 (40 * sn + j)) (whS (if ((nI 3) : Int32) = 5 then tM B N v else (tM B N ru)) (chR (gV x i) (nI 3) v) (x.1 4 0)) (x.1 14 sn).toNatClampNeg 0) v)), (8, .int (nI v))] 182 [] := by
                            intro k
                            induction k with
                            | zero => intro v x' h1 hk hF; omega
                            | succ k ih =>
                              intro v x' h1 hk hF
                              have ht6 : t ≤ 6 := hX.2.1.2.2
                              have e_v : (nI v).toInt = v := nI_toInt (by omega)
                              have e_t : (nI 20).toInt = 20 := nI_toInt (by omega)
                              refine j_iload C dX10_tells_182 rfl ?_
                              refine j_iload C dX10_tells_184 rfl ?_
                              refine j_icmp_ge (tgt := 227) C dX10_tells_186 (by decide) (fun c_186 => ?_) (fun c_186 => ?_)
                              · skip
                                have hv : v = 20 := by simp only [Int32.lt_iff_toInt_lt, Int32.le_iff_toInt_le, ← Int32.toInt_inj, Int32.reduceToInt, e_v, e_t] at c_186; omega
                                refine j_aload_n C dX10_tells_227 rfl rfl ?_
                                refine j_iload C dX10_tells_228 rfl ?_
                                refine j_iload_n C dX10_tells_230 rfl rfl ?_
                                refine j_iload C dX10_tells_231 rfl ?_
                                refine j_callvv C (c_X10_lays _ _ _ _ _ _ _ 4 i rfl (by decide) (fun _ => rfl) (by omega)) dX10_tells_233 jm_RX10_91 ⟨_, _, _, _, wO mO, rfl, rfl⟩ ⟨by decide, by decide, by decide, by decide⟩ rfl (Nat.le_of_ble_eq_true rfl) (fun z_233 hz_233 => ?_)
                                have hz9 := hz_233.symm; subst hz9
                                have hKz : mK x (lyX x' 4 i (x.1 6 (4 * i + 1))) := lt_b (w := 3) (by decide) hF rfl
                                refine j_iload C dX10_tells_236 rfl ?_
                                refine hret _ _ _ _ dX10_tells_238 rfl ?_
                                refine ⟨?_, hKz⟩
                                rw [if_pos ⟨⟨(nI_0le hsn (by decide)).1, (nI_0le (n := 4) hsn (by decide)).2⟩, ⟨(nI_0le hi (by omega)).1, by rw [hX.1.1]; exact (nI_0le hi (by omega)).2⟩, (by have := hc_21; simp only [Int32.lt_iff_toInt_lt, Int32.le_iff_toInt_le, ← Int32.toInt_inj, Int32.reduceToInt] at this ⊢; omega)⟩, nI_clamp (show sn < 2147483648 by omega), nI_clamp (show i < 2147483648 by omega), if_neg c_36, if_neg (by rw [esz]; simp only [Int32.lt_iff_toInt_lt, Int32.le_iff_toInt_le, ← Int32.toInt_inj, Int32.reduceToInt, e_sz]; omega), if_neg (by decide)]
                                subst hv
                                rfl
                              · skip
                                have hv : v < 20 := by simp only [Int32.lt_iff_toInt_lt, Int32.le_iff_toInt_le, ← Int32.toInt_inj, Int32.reduceToInt, e_v, e_t] at c_186; omega
                                refine j_aload_n C dX10_tells_189 rfl rfl ?_
                                refine j_iload C dX10_tells_190 rfl ?_
                                refine j_iload_n C dX10_tells_192 rfl rfl ?_
                                refine j_iload C dX10_tells_193 rfl ?_
                                refine j_callvv C (c_X10_lays _ _ _ _ _ _ _ 4 i rfl (by decide) (fun _ => rfl) (by omega)) dX10_tells_195 jm_RX10_91 ⟨_, _, _, _, wO mO, rfl, rfl⟩ ⟨by decide, by decide, by decide, by decide⟩ rfl (Nat.le_of_ble_eq_true rfl) (fun z_195 hz_195 => ?_)
                                have hz9 := hz_195.symm; subst hz9
                                have hF2 : ltF x (lyX x' 4 i (nI v)) (sjS 3) i := ltF_l hF (by decide)
                                have hX2 : inM (lyX x' 4 i (nI v)) m t (if 3 = 5 then v else ru) B N := lt_in (w := 3) hX (by decide) hF ⟨fun h => by omega, fun h => by omega⟩
                                have hg2 : (∀ j, j < 5 → gV (lyX x' 4 i (nI v)) i j = chR (gV x i) (nI 3) v j) ∧ (lyX x' 4 i (nI v)).1 4 = x.1 4 := lt_g (w := 3) (v := v) (by decide) hF
                                refine j_iload C dX10_tells_198 rfl ?_
                                refine j_aload_n C dX10_tells_200 rfl rfl ?_
                                refine j_iload_n C dX10_tells_201 rfl rfl ?_
                                refine j_iload_n C dX10_tells_202 rfl rfl ?_
                                refine j_calliv C (c_X10_firstOther _ _ _ _ _ _ m t (if 3 = 5 then v else ru) B N hX2 i sn sz rfl hi rfl hsn (by rw [hF2.1 14 (by decide) (by decide) (by decide) (by decide) (by decide)]; exact esz) hz30) dX10_tells_203 jm_RX10_368 ⟨_, _, _, _, wO mO, rfl, rfl⟩ ⟨by decide, by decide, by decide, by decide⟩ rfl (Nat.le_of_ble_eq_true rfl) (fun r_203 z_203 hz_203 => ?_)
                                obtain ⟨hr_203, hK_203⟩ := hz_203
                                rw [whS_c hg2.1, hF2.1 15 (by decide) (by decide) (by decide) (by decide) (by decide)] at hr_203
                                have hs4 : (lyX x' 4 i (nI v)).1 4 = x.1 4 := hg2.2
                                rw [hs4] at hr_203
                                refine j_iconst (v := -1) C dX10_tells_206 rfl ?_
                                refine j_icmp_ne (tgt := 214) C dX10_tells_207 (by decide) (fun c_207 => ?_) (fun c_207 => ?_)
                                · skip
                                  have hcc : ¬ (fun v => osS (fun j => x.1 15 (40 * sn + j)) (whS (if ((nI 3) : Int32) = 5 then tM B N v else (tM B N ru)) (chR (gV x i) (nI 3) v) (x.1 4 0)) (x.1 14 sn).toNatClampNeg 0) v = -1 := by
                                    have e9 : (fun v => osS (fun j => x.1 15 (40 * sn + j)) (whS (if ((nI 3) : Int32) = 5 then tM B N v else (tM B N ru)) (chR (gV x i) (nI 3) v) (x.1 4 0)) (x.1 14 sn).toNatClampNeg 0) v = r_203 := by rw [hr_203, esz, nI_clamp (show sz < 2147483648 by omega)]; rfl
                                    rw [e9]; exact c_207
                                  refine j_iconst (v := 0) C dX10_tells_214 rfl ?_
                                  refine j_iload C dX10_tells_215 rfl ?_
                                  refine j_ishl C dX10_tells_217 ?_
                                  refine j_ior C dX10_tells_218 ?_
                                  refine j_istore (lv' := [(7, _), (0, _), (1, _), (2, _), (3, _), (4, _), (5, _), (6, _), (8, _)]) C dX10_tells_219 (by decide) rfl ?_
                                  refine j_iinc (lv' := [(8, _), (7, _), (0, _), (1, _), (2, _), (3, _), (4, _), (5, _), (6, _)]) (v := nI (v + 1)) C dX10_tells_221 rfl (j_inc1 v) (by decide) rfl ?_
                                  refine j_goto (tgt := 182) C dX10_tells_224 (by decide) ?_
                                  refine j_lv (lv' := [(0, _), (1, _), (2, _), (3, _), (4, _), (5, _), (6, _), (7, _), (8, _)]) rfl ?_
                                  have h9 := ih (v + 1) z_203 (by omega) (by omega) (ltF_k hF2 hK_203)
                                  rw [tlS] at h9
                                  rw [if_neg hcc] at h9
                                  rw [or_0]
                                  exact h9
                                · skip
                                  have hcc : (fun v => osS (fun j => x.1 15 (40 * sn + j)) (whS (if ((nI 3) : Int32) = 5 then tM B N v else (tM B N ru)) (chR (gV x i) (nI 3) v) (x.1 4 0)) (x.1 14 sn).toNatClampNeg 0) v = -1 := by
                                    have e9 : (fun v => osS (fun j => x.1 15 (40 * sn + j)) (whS (if ((nI 3) : Int32) = 5 then tM B N v else (tM B N ru)) (chR (gV x i) (nI 3) v) (x.1 4 0)) (x.1 14 sn).toNatClampNeg 0) v = r_203 := by rw [hr_203, esz, nI_clamp (show sz < 2147483648 by omega)]; rfl
                                    rw [e9]; exact c_207
                                  refine j_iconst (v := 1) C dX10_tells_210 rfl ?_
                                  refine j_goto (tgt := 215) C dX10_tells_211 (by decide) ?_
                                  refine j_iload C dX10_tells_215 rfl ?_
                                  refine j_ishl C dX10_tells_217 ?_
                                  refine j_ior C dX10_tells_218 ?_
                                  refine j_istore (lv' := [(7, _), (0, _), (1, _), (2, _), (3, _), (4, _), (5, _), (6, _), (8, _)]) C dX10_tells_219 (by decide) rfl ?_
                                  refine j_iinc (lv' := [(8, _), (7, _), (0, _), (1, _), (2, _), (3, _), (4, _), (5, _), (6, _)]) (v := nI (v + 1)) C dX10_tells_221 rfl (j_inc1 v) (by decide) rfl ?_
                                  refine j_goto (tgt := 182) C dX10_tells_224 (by decide) ?_
                                  refine j_lv (lv' := [(0, _), (1, _), (2, _), (3, _), (4, _), (5, _), (6, _), (7, _), (8, _)]) rfl ?_
                                  have h9 := ih (v + 1) z_203 (by omega) (by omega) (ltF_k hF2 hK_203)
                                  rw [tlS] at h9
                                  rw [if_pos hcc] at h9
                                  exact h9
                          refine j_lv (lv' := [(0, _), (1, _), (2, _), (3, _), (4, _), (5, _), (6, _), (7, _), (8, _)]) rfl ?_
                          exact L_182 (20 + 1) 0 x (by omega) (by omega) ltF_r
                      · skip
                        exact absurd c_143 (by decide)
                    · skip
                      exact absurd c_133 (by decide)
                · skip
                  have hwn : wn = 2 := by simp only [Int32.lt_iff_toInt_lt, Int32.le_iff_toInt_le, ← Int32.toInt_inj, Int32.reduceToInt, e_wn] at c_79; omega
                  subst hwn
                  refine j_iconst (v := 3) C dX10_tells_82 rfl ?_
                  refine j_goto (tgt := 106) C dX10_tells_83 (by decide) ?_
                  refine j_istore (lv' := [(4, _), (0, _), (1, _), (2, _), (3, _)]) C dX10_tells_106 (by decide) rfl ?_
                  refine j_iload C dX10_tells_108 rfl ?_
                  refine j_bipush (v := 9) C dX10_tells_110 rfl ?_
                  refine j_icmp_ne (tgt := 122) C dX10_tells_112 (by decide) (fun _ => ?_) (fun c => absurd c (by decide))
                  refine j_aload_n C dX10_tells_122 rfl rfl ?_
                  refine j_iload_n C dX10_tells_123 rfl rfl ?_
                  refine j_iload C dX10_tells_124 rfl ?_
                  refine j_calliv C (c_X10_told _ _ _ _ _ _ m hX.1) dX10_tells_126 jm_RX10_87 ⟨_, _, _, _, wO mO, rfl, rfl⟩ ⟨by decide, by decide, by decide, by decide⟩ rfl (Nat.le_of_ble_eq_true rfl) (fun r z hz => ?_)
                  obtain ⟨hr_126, hz9⟩ := hz
                  have hz9 := hz9.symm; subst hz9
                  have hv126 : r = x.1 6 (4 * i + 0) := by
                    rw [hr_126, if_pos ⟨by decide, Or.inr ⟨(nI_0le hi (by omega)).1, by rw [hX.1.1]; exact (nI_0le hi (by omega)).2⟩⟩, nI_clamp (show i < 2147483648 by omega)]
                    simp [tdS, gV]
                  subst hv126
                  refine j_istore (lv' := [(5, _), (4, _), (0, _), (1, _), (2, _), (3, _)]) C dX10_tells_129 (by decide) rfl ?_
                  refine j_iload_n C dX10_tells_131 rfl rfl ?_
                  refine j_iconst (v := 1) C dX10_tells_132 rfl ?_
                  refine j_icmp_ne (tgt := 141) C dX10_tells_133 (by decide) (fun c_133 => ?_) (fun c_133 => ?_)
                  · skip
                    skip
                    refine j_iload_n C dX10_tells_141 rfl rfl ?_
                    refine j_iconst (v := 2) C dX10_tells_142 rfl ?_
                    refine j_icmp_ne (tgt := 151) C dX10_tells_143 (by decide) (fun c_143 => ?_) (fun c_143 => ?_)
                    · skip
                      exact absurd rfl c_143
                    · skip
                      skip
                      refine j_bipush (v := 10) C dX10_tells_146 rfl ?_
                      refine j_goto (tgt := 174) C dX10_tells_148 (by decide) ?_
                      refine j_istore (lv' := [(6, _), (5, _), (4, _), (0, _), (1, _), (2, _), (3, _)]) C dX10_tells_174 (by decide) rfl ?_
                      refine j_iconst (v := 0) C dX10_tells_176 rfl ?_
                      refine j_istore (lv' := [(7, _), (6, _), (5, _), (4, _), (0, _), (1, _), (2, _), (3, _)]) C dX10_tells_177 (by decide) rfl ?_
                      refine j_iconst (v := 0) C dX10_tells_179 rfl ?_
                      refine j_istore (lv' := [(8, _), (7, _), (6, _), (5, _), (4, _), (0, _), (1, _), (2, _), (3, _)]) C dX10_tells_180 (by decide) rfl ?_
                      have L_182 : ∀ k : Nat, ∀ (v : Nat) (x' : mS), v ≤ 10 → 10 < v + k → ltF x x' (sjS 2) i → J KK (mW (kG KK) a) 0 0 x' [(0, .ref (a 0)), (1, .int (nI sn)), (2, .int (nI i)), (3, .int (nI 2)), (4, .int 3), (5, .int (x.1 6 (4 * i + 0))), (6, .int (nI 10)), (7, .int (tlS (fun v => osS (fun j => x.1 15 (40 * sn + j)) (whS (if ((nI 2) : Int32) = 5 then tM B N v else (tM B N ru)) (chR (gV x i) (nI 2) v) (x.1 4 0)) (x.1 14 sn).toNatClampNeg 0) v)), (8, .int (nI v))] 182 [] := by
                        intro k
                        induction k with
                        | zero => intro v x' h1 hk hF; omega
                        | succ k ih =>
                          intro v x' h1 hk hF
                          have ht6 : t ≤ 6 := hX.2.1.2.2
                          have e_v : (nI v).toInt = v := nI_toInt (by omega)
                          have e_t : (nI 10).toInt = 10 := nI_toInt (by omega)
                          refine j_iload C dX10_tells_182 rfl ?_
                          refine j_iload C dX10_tells_184 rfl ?_
                          refine j_icmp_ge (tgt := 227) C dX10_tells_186 (by decide) (fun c_186 => ?_) (fun c_186 => ?_)
                          · skip
                            have hv : v = 10 := by simp only [Int32.lt_iff_toInt_lt, Int32.le_iff_toInt_le, ← Int32.toInt_inj, Int32.reduceToInt, e_v, e_t] at c_186; omega
                            refine j_aload_n C dX10_tells_227 rfl rfl ?_
                            refine j_iload C dX10_tells_228 rfl ?_
                            refine j_iload_n C dX10_tells_230 rfl rfl ?_
                            refine j_iload C dX10_tells_231 rfl ?_
                            refine j_callvv C (c_X10_lays _ _ _ _ _ _ _ 3 i rfl (by decide) (fun _ => rfl) (by omega)) dX10_tells_233 jm_RX10_91 ⟨_, _, _, _, wO mO, rfl, rfl⟩ ⟨by decide, by decide, by decide, by decide⟩ rfl (Nat.le_of_ble_eq_true rfl) (fun z_233 hz_233 => ?_)
                            have hz9 := hz_233.symm; subst hz9
                            have hKz : mK x (lyX x' 3 i (x.1 6 (4 * i + 0))) := lt_b (w := 2) (by decide) hF rfl
                            refine j_iload C dX10_tells_236 rfl ?_
                            refine hret _ _ _ _ dX10_tells_238 rfl ?_
                            refine ⟨?_, hKz⟩
                            rw [if_pos ⟨⟨(nI_0le hsn (by decide)).1, (nI_0le (n := 4) hsn (by decide)).2⟩, ⟨(nI_0le hi (by omega)).1, by rw [hX.1.1]; exact (nI_0le hi (by omega)).2⟩, (by have := hc_21; simp only [Int32.lt_iff_toInt_lt, Int32.le_iff_toInt_le, ← Int32.toInt_inj, Int32.reduceToInt] at this ⊢; omega)⟩, nI_clamp (show sn < 2147483648 by omega), nI_clamp (show i < 2147483648 by omega), if_neg c_36, if_neg (by rw [esz]; simp only [Int32.lt_iff_toInt_lt, Int32.le_iff_toInt_le, ← Int32.toInt_inj, Int32.reduceToInt, e_sz]; omega), if_neg (by decide)]
                            subst hv
                            rfl
                          · skip
                            have hv : v < 10 := by simp only [Int32.lt_iff_toInt_lt, Int32.le_iff_toInt_le, ← Int32.toInt_inj, Int32.reduceToInt, e_v, e_t] at c_186; omega
                            refine j_aload_n C dX10_tells_189 rfl rfl ?_
                            refine j_iload C dX10_tells_190 rfl ?_
                            refine j_iload_n C dX10_tells_192 rfl rfl ?_
                            refine j_iload C dX10_tells_193 rfl ?_
                            refine j_callvv C (c_X10_lays _ _ _ _ _ _ _ 3 i rfl (by decide) (fun _ => rfl) (by omega)) dX10_tells_195 jm_RX10_91 ⟨_, _, _, _, wO mO, rfl, rfl⟩ ⟨by decide, by decide, by decide, by decide⟩ rfl (Nat.le_of_ble_eq_true rfl) (fun z_195 hz_195 => ?_)
                            have hz9 := hz_195.symm; subst hz9
                            have hF2 : ltF x (lyX x' 3 i (nI v)) (sjS 2) i := ltF_l hF (by decide)
                            have hX2 : inM (lyX x' 3 i (nI v)) m t (if 2 = 5 then v else ru) B N := lt_in (w := 2) hX (by decide) hF ⟨fun h => by omega, fun h => by omega⟩
                            have hg2 : (∀ j, j < 5 → gV (lyX x' 3 i (nI v)) i j = chR (gV x i) (nI 2) v j) ∧ (lyX x' 3 i (nI v)).1 4 = x.1 4 := lt_g (w := 2) (v := v) (by decide) hF
                            refine j_iload C dX10_tells_198 rfl ?_
                            refine j_aload_n C dX10_tells_200 rfl rfl ?_
                            refine j_iload_n C dX10_tells_201 rfl rfl ?_
                            refine j_iload_n C dX10_tells_202 rfl rfl ?_
                            refine j_calliv C (c_X10_firstOther _ _ _ _ _ _ m t (if 2 = 5 then v else ru) B N hX2 i sn sz rfl hi rfl hsn (by rw [hF2.1 14 (by decide) (by decide) (by decide) (by decide) (by decide)]; exact esz) hz30) dX10_tells_203 jm_RX10_368 ⟨_, _, _, _, wO mO, rfl, rfl⟩ ⟨by decide, by decide, by decide, by decide⟩ rfl (Nat.le_of_ble_eq_true rfl) (fun r_203 z_203 hz_203 => ?_)
                            obtain ⟨hr_203, hK_203⟩ := hz_203
                            rw [whS_c hg2.1, hF2.1 15 (by decide) (by decide) (by decide) (by decide) (by decide)] at hr_203
                            have hs4 : (lyX x' 3 i (nI v)).1 4 = x.1 4 := hg2.2
                            rw [hs4] at hr_203
                            refine j_iconst (v := -1) C dX10_tells_206 rfl ?_
                            refine j_icmp_ne (tgt := 214) C dX10_tells_207 (by decide) (fun c_207 => ?_) (fun c_207 => ?_)
                            · skip
                              have hcc : ¬ (fun v => osS (fun j => x.1 15 (40 * sn + j)) (whS (if ((nI 2) : Int32) = 5 then tM B N v else (tM B N ru)) (chR (gV x i) (nI 2) v) (x.1 4 0)) (x.1 14 sn).toNatClampNeg 0) v = -1 := by
                                have e9 : (fun v => osS (fun j => x.1 15 (40 * sn + j)) (whS (if ((nI 2) : Int32) = 5 then tM B N v else (tM B N ru)) (chR (gV x i) (nI 2) v) (x.1 4 0)) (x.1 14 sn).toNatClampNeg 0) v = r_203 := by rw [hr_203, esz, nI_clamp (show sz < 2147483648 by omega)]; rfl
                                rw [e9]; exact c_207
                              refine j_iconst (v := 0) C dX10_tells_214 rfl ?_
                              refine j_iload C dX10_tells_215 rfl ?_
                              refine j_ishl C dX10_tells_217 ?_
                              refine j_ior C dX10_tells_218 ?_
                              refine j_istore (lv' := [(7, _), (0, _), (1, _), (2, _), (3, _), (4, _), (5, _), (6, _), (8, _)]) C dX10_tells_219 (by decide) rfl ?_
                              refine j_iinc (lv' := [(8, _), (7, _), (0, _), (1, _), (2, _), (3, _), (4, _), (5, _), (6, _)]) (v := nI (v + 1)) C dX10_tells_221 rfl (j_inc1 v) (by decide) rfl ?_
                              refine j_goto (tgt := 182) C dX10_tells_224 (by decide) ?_
                              refine j_lv (lv' := [(0, _), (1, _), (2, _), (3, _), (4, _), (5, _), (6, _), (7, _), (8, _)]) rfl ?_
                              have h9 := ih (v + 1) z_203 (by omega) (by omega) (ltF_k hF2 hK_203)
                              rw [tlS] at h9
                              rw [if_neg hcc] at h9
                              rw [or_0]
                              exact h9
                            · skip
                              have hcc : (fun v => osS (fun j => x.1 15 (40 * sn + j)) (whS (if ((nI 2) : Int32) = 5 then tM B N v else (tM B N ru)) (chR (gV x i) (nI 2) v) (x.1 4 0)) (x.1 14 sn).toNatClampNeg 0) v = -1 := by
                                have e9 : (fun v => osS (fun j => x.1 15 (40 * sn + j)) (whS (if ((nI 2) : Int32) = 5 then tM B N v else (tM B N ru)) (chR (gV x i) (nI 2) v) (x.1 4 0)) (x.1 14 sn).toNatClampNeg 0) v = r_203 := by rw [hr_203, esz, nI_clamp (show sz < 2147483648 by omega)]; rfl
                                rw [e9]; exact c_207
                              refine j_iconst (v := 1) C dX10_tells_210 rfl ?_
                              refine j_goto (tgt := 215) C dX10_tells_211 (by decide) ?_
                              refine j_iload C dX10_tells_215 rfl ?_
                              refine j_ishl C dX10_tells_217 ?_
                              refine j_ior C dX10_tells_218 ?_
                              refine j_istore (lv' := [(7, _), (0, _), (1, _), (2, _), (3, _), (4, _), (5, _), (6, _), (8, _)]) C dX10_tells_219 (by decide) rfl ?_
                              refine j_iinc (lv' := [(8, _), (7, _), (0, _), (1, _), (2, _), (3, _), (4, _), (5, _), (6, _)]) (v := nI (v + 1)) C dX10_tells_221 rfl (j_inc1 v) (by decide) rfl ?_
                              refine j_goto (tgt := 182) C dX10_tells_224 (by decide) ?_
                              refine j_lv (lv' := [(0, _), (1, _), (2, _), (3, _), (4, _), (5, _), (6, _), (7, _), (8, _)]) rfl ?_
                              have h9 := ih (v + 1) z_203 (by omega) (by omega) (ltF_k hF2 hK_203)
                              rw [tlS] at h9
                              rw [if_pos hcc] at h9
                              exact h9
                      refine j_lv (lv' := [(0, _), (1, _), (2, _), (3, _), (4, _), (5, _), (6, _), (7, _), (8, _)]) rfl ?_
                      exact L_182 (10 + 1) 0 x (by omega) (by omega) ltF_r
                  · skip
                    exact absurd c_133 (by decide)
              · skip
                have hwn : wn = 1 := by simp only [Int32.lt_iff_toInt_lt, Int32.le_iff_toInt_le, ← Int32.toInt_inj, Int32.reduceToInt, e_wn] at c_69; omega
                subst hwn
                refine j_bipush (v := 7) C dX10_tells_72 rfl ?_
                refine j_goto (tgt := 106) C dX10_tells_74 (by decide) ?_
                refine j_istore (lv' := [(4, _), (0, _), (1, _), (2, _), (3, _)]) C dX10_tells_106 (by decide) rfl ?_
                refine j_iload C dX10_tells_108 rfl ?_
                refine j_bipush (v := 9) C dX10_tells_110 rfl ?_
                refine j_icmp_ne (tgt := 122) C dX10_tells_112 (by decide) (fun _ => ?_) (fun c => absurd c (by decide))
                refine j_aload_n C dX10_tells_122 rfl rfl ?_
                refine j_iload_n C dX10_tells_123 rfl rfl ?_
                refine j_iload C dX10_tells_124 rfl ?_
                refine j_calliv C (c_X10_told _ _ _ _ _ _ m hX.1) dX10_tells_126 jm_RX10_87 ⟨_, _, _, _, wO mO, rfl, rfl⟩ ⟨by decide, by decide, by decide, by decide⟩ rfl (Nat.le_of_ble_eq_true rfl) (fun r z hz => ?_)
                obtain ⟨hr_126, hz9⟩ := hz
                have hz9 := hz9.symm; subst hz9
                have hv126 : r = x.1 5 i := by
                  rw [hr_126, if_pos ⟨by decide, Or.inr ⟨(nI_0le hi (by omega)).1, by rw [hX.1.1]; exact (nI_0le hi (by omega)).2⟩⟩, nI_clamp (show i < 2147483648 by omega)]
                  simp [tdS, gV]
                subst hv126
                refine j_istore (lv' := [(5, _), (4, _), (0, _), (1, _), (2, _), (3, _)]) C dX10_tells_129 (by decide) rfl ?_
                refine j_iload_n C dX10_tells_131 rfl rfl ?_
                refine j_iconst (v := 1) C dX10_tells_132 rfl ?_
                refine j_icmp_ne (tgt := 141) C dX10_tells_133 (by decide) (fun c_133 => ?_) (fun c_133 => ?_)
                · skip
                  exact absurd rfl c_133
                · skip
                  skip
                  refine j_bipush (v := 6) C dX10_tells_136 rfl ?_
                  refine j_goto (tgt := 174) C dX10_tells_138 (by decide) ?_
                  refine j_istore (lv' := [(6, _), (5, _), (4, _), (0, _), (1, _), (2, _), (3, _)]) C dX10_tells_174 (by decide) rfl ?_
                  refine j_iconst (v := 0) C dX10_tells_176 rfl ?_
                  refine j_istore (lv' := [(7, _), (6, _), (5, _), (4, _), (0, _), (1, _), (2, _), (3, _)]) C dX10_tells_177 (by decide) rfl ?_
                  refine j_iconst (v := 0) C dX10_tells_179 rfl ?_
                  refine j_istore (lv' := [(8, _), (7, _), (6, _), (5, _), (4, _), (0, _), (1, _), (2, _), (3, _)]) C dX10_tells_180 (by decide) rfl ?_
                  have L_182 : ∀ k : Nat, ∀ (v : Nat) (x' : mS), v ≤ 6 → 6 < v + k → ltF x x' (sjS 1) i → J KK (mW (kG KK) a) 0 0 x' [(0, .ref (a 0)), (1, .int (nI sn)), (2, .int (nI i)), (3, .int (nI 1)), (4, .int 7), (5, .int (x.1 5 i)), (6, .int (nI 6)), (7, .int (tlS (fun v => osS (fun j => x.1 15 (40 * sn + j)) (whS (if ((nI 1) : Int32) = 5 then tM B N v else (tM B N ru)) (chR (gV x i) (nI 1) v) (x.1 4 0)) (x.1 14 sn).toNatClampNeg 0) v)), (8, .int (nI v))] 182 [] := by
                    intro k
                    induction k with
                    | zero => intro v x' h1 hk hF; omega
                    | succ k ih =>
                      intro v x' h1 hk hF
                      have ht6 : t ≤ 6 := hX.2.1.2.2
                      have e_v : (nI v).toInt = v := nI_toInt (by omega)
                      have e_t : (nI 6).toInt = 6 := nI_toInt (by omega)
                      refine j_iload C dX10_tells_182 rfl ?_
                      refine j_iload C dX10_tells_184 rfl ?_
                      refine j_icmp_ge (tgt := 227) C dX10_tells_186 (by decide) (fun c_186 => ?_) (fun c_186 => ?_)
                      · skip
                        have hv : v = 6 := by simp only [Int32.lt_iff_toInt_lt, Int32.le_iff_toInt_le, ← Int32.toInt_inj, Int32.reduceToInt, e_v, e_t] at c_186; omega
                        refine j_aload_n C dX10_tells_227 rfl rfl ?_
                        refine j_iload C dX10_tells_228 rfl ?_
                        refine j_iload_n C dX10_tells_230 rfl rfl ?_
                        refine j_iload C dX10_tells_231 rfl ?_
                        refine j_callvv C (c_X10_lays _ _ _ _ _ _ _ 7 i rfl (by decide) (fun _ => rfl) (by omega)) dX10_tells_233 jm_RX10_91 ⟨_, _, _, _, wO mO, rfl, rfl⟩ ⟨by decide, by decide, by decide, by decide⟩ rfl (Nat.le_of_ble_eq_true rfl) (fun z_233 hz_233 => ?_)
                        have hz9 := hz_233.symm; subst hz9
                        have hKz : mK x (lyX x' 7 i (x.1 5 i)) := lt_b (w := 1) (by decide) hF rfl
                        refine j_iload C dX10_tells_236 rfl ?_
                        refine hret _ _ _ _ dX10_tells_238 rfl ?_
                        refine ⟨?_, hKz⟩
                        rw [if_pos ⟨⟨(nI_0le hsn (by decide)).1, (nI_0le (n := 4) hsn (by decide)).2⟩, ⟨(nI_0le hi (by omega)).1, by rw [hX.1.1]; exact (nI_0le hi (by omega)).2⟩, (by have := hc_21; simp only [Int32.lt_iff_toInt_lt, Int32.le_iff_toInt_le, ← Int32.toInt_inj, Int32.reduceToInt] at this ⊢; omega)⟩, nI_clamp (show sn < 2147483648 by omega), nI_clamp (show i < 2147483648 by omega), if_neg c_36, if_neg (by rw [esz]; simp only [Int32.lt_iff_toInt_lt, Int32.le_iff_toInt_le, ← Int32.toInt_inj, Int32.reduceToInt, e_sz]; omega), if_neg (by decide)]
                        subst hv
                        rfl
                      · skip
                        have hv : v < 6 := by simp only [Int32.lt_iff_toInt_lt, Int32.le_iff_toInt_le, ← Int32.toInt_inj, Int32.reduceToInt, e_v, e_t] at c_186; omega
                        refine j_aload_n C dX10_tells_189 rfl rfl ?_
                        refine j_iload C dX10_tells_190 rfl ?_
                        refine j_iload_n C dX10_tells_192 rfl rfl ?_
                        refine j_iload C dX10_tells_193 rfl ?_
                        refine j_callvv C (c_X10_lays _ _ _ _ _ _ _ 7 i rfl (by decide) (fun _ => rfl) (by omega)) dX10_tells_195 jm_RX10_91 ⟨_, _, _, _, wO mO, rfl, rfl⟩ ⟨by decide, by decide, by decide, by decide⟩ rfl (Nat.le_of_ble_eq_true rfl) (fun z_195 hz_195 => ?_)
                        have hz9 := hz_195.symm; subst hz9
                        have hF2 : ltF x (lyX x' 7 i (nI v)) (sjS 1) i := ltF_l hF (by decide)
                        have hX2 : inM (lyX x' 7 i (nI v)) m t (if 1 = 5 then v else ru) B N := lt_in (w := 1) hX (by decide) hF ⟨fun h => by omega, fun h => by omega⟩
                        have hg2 : (∀ j, j < 5 → gV (lyX x' 7 i (nI v)) i j = chR (gV x i) (nI 1) v j) ∧ (lyX x' 7 i (nI v)).1 4 = x.1 4 := lt_g (w := 1) (v := v) (by decide) hF
                        refine j_iload C dX10_tells_198 rfl ?_
                        refine j_aload_n C dX10_tells_200 rfl rfl ?_
                        refine j_iload_n C dX10_tells_201 rfl rfl ?_
                        refine j_iload_n C dX10_tells_202 rfl rfl ?_
                        refine j_calliv C (c_X10_firstOther _ _ _ _ _ _ m t (if 1 = 5 then v else ru) B N hX2 i sn sz rfl hi rfl hsn (by rw [hF2.1 14 (by decide) (by decide) (by decide) (by decide) (by decide)]; exact esz) hz30) dX10_tells_203 jm_RX10_368 ⟨_, _, _, _, wO mO, rfl, rfl⟩ ⟨by decide, by decide, by decide, by decide⟩ rfl (Nat.le_of_ble_eq_true rfl) (fun r_203 z_203 hz_203 => ?_)
                        obtain ⟨hr_203, hK_203⟩ := hz_203
                        rw [whS_c hg2.1, hF2.1 15 (by decide) (by decide) (by decide) (by decide) (by decide)] at hr_203
                        have hs4 : (lyX x' 7 i (nI v)).1 4 = x.1 4 := hg2.2
                        rw [hs4] at hr_203
                        refine j_iconst (v := -1) C dX10_tells_206 rfl ?_
                        refine j_icmp_ne (tgt := 214) C dX10_tells_207 (by decide) (fun c_207 => ?_) (fun c_207 => ?_)
                        · skip
                          have hcc : ¬ (fun v => osS (fun j => x.1 15 (40 * sn + j)) (whS (if ((nI 1) : Int32) = 5 then tM B N v else (tM B N ru)) (chR (gV x i) (nI 1) v) (x.1 4 0)) (x.1 14 sn).toNatClampNeg 0) v = -1 := by
                            have e9 : (fun v => osS (fun j => x.1 15 (40 * sn + j)) (whS (if ((nI 1) : Int32) = 5 then tM B N v else (tM B N ru)) (chR (gV x i) (nI 1) v) (x.1 4 0)) (x.1 14 sn).toNatClampNeg 0) v = r_203 := by rw [hr_203, esz, nI_clamp (show sz < 2147483648 by omega)]; rfl
                            rw [e9]; exact c_207
                          refine j_iconst (v := 0) C dX10_tells_214 rfl ?_
                          refine j_iload C dX10_tells_215 rfl ?_
                          refine j_ishl C dX10_tells_217 ?_
                          refine j_ior C dX10_tells_218 ?_
                          refine j_istore (lv' := [(7, _), (0, _), (1, _), (2, _), (3, _), (4, _), (5, _), (6, _), (8, _)]) C dX10_tells_219 (by decide) rfl ?_
                          refine j_iinc (lv' := [(8, _), (7, _), (0, _), (1, _), (2, _), (3, _), (4, _), (5, _), (6, _)]) (v := nI (v + 1)) C dX10_tells_221 rfl (j_inc1 v) (by decide) rfl ?_
                          refine j_goto (tgt := 182) C dX10_tells_224 (by decide) ?_
                          refine j_lv (lv' := [(0, _), (1, _), (2, _), (3, _), (4, _), (5, _), (6, _), (7, _), (8, _)]) rfl ?_
                          have h9 := ih (v + 1) z_203 (by omega) (by omega) (ltF_k hF2 hK_203)
                          rw [tlS] at h9
                          rw [if_neg hcc] at h9
                          rw [or_0]
                          exact h9
                        · skip
                          have hcc : (fun v => osS (fun j => x.1 15 (40 * sn + j)) (whS (if ((nI 1) : Int32) = 5 then tM B N v else (tM B N ru)) (chR (gV x i) (nI 1) v) (x.1 4 0)) (x.1 14 sn).toNatClampNeg 0) v = -1 := by
                            have e9 : (fun v => osS (fun j => x.1 15 (40 * sn + j)) (whS (if ((nI 1) : Int32) = 5 then tM B N v else (tM B N ru)) (chR (gV x i) (nI 1) v) (x.1 4 0)) (x.1 14 sn).toNatClampNeg 0) v = r_203 := by rw [hr_203, esz, nI_clamp (show sz < 2147483648 by omega)]; rfl
                            rw [e9]; exact c_207
                          refine j_iconst (v := 1) C dX10_tells_210 rfl ?_
                          refine j_goto (tgt := 215) C dX10_tells_211 (by decide) ?_
                          refine j_iload C dX10_tells_215 rfl ?_
                          refine j_ishl C dX10_tells_217 ?_
                          refine j_ior C dX10_tells_218 ?_
                          refine j_istore (lv' := [(7, _), (0, _), (1, _), (2, _), (3, _), (4, _), (5, _), (6, _), (8, _)]) C dX10_tells_219 (by decide) rfl ?_
                          refine j_iinc (lv' := [(8, _), (7, _), (0, _), (1, _), (2, _), (3, _), (4, _), (5, _), (6, _)]) (v := nI (v + 1)) C dX10_tells_221 rfl (j_inc1 v) (by decide) rfl ?_
                          refine j_goto (tgt := 182) C dX10_tells_224 (by decide) ?_
                          refine j_lv (lv' := [(0, _), (1, _), (2, _), (3, _), (4, _), (5, _), (6, _), (7, _), (8, _)]) rfl ?_
                          have h9 := ih (v + 1) z_203 (by omega) (by omega) (ltF_k hF2 hK_203)
                          rw [tlS] at h9
                          rw [if_pos hcc] at h9
                          exact h9
                  refine j_lv (lv' := [(0, _), (1, _), (2, _), (3, _), (4, _), (5, _), (6, _), (7, _), (8, _)]) rfl ?_
                  exact L_182 (6 + 1) 0 x (by omega) (by omega) ltF_r
            · skip
              have hw0 : wn = 0 := by simp only [Int32.lt_iff_toInt_lt, Int32.le_iff_toInt_le, ← Int32.toInt_inj, Int32.reduceToInt, e_wn] at c_57; omega
              refine j_aload_n C dX10_tells_60 rfl rfl ?_
              refine j_iload_n C dX10_tells_61 rfl rfl ?_
              refine j_iload_n C dX10_tells_62 rfl rfl ?_
              refine j_calliv C (c_X10_firstOther _ _ _ _ _ _ m t ru B N hX i sn sz rfl hi rfl hsn esz hz30) dX10_tells_63 jm_RX10_368 ⟨_, _, _, _, wO mO, rfl, rfl⟩ ⟨by decide, by decide, by decide, by decide⟩ rfl (Nat.le_of_ble_eq_true rfl) (fun r_63 z_63 hz_63 => ?_)
              skip
              refine hret _ _ _ _ dX10_tells_66 rfl ?_
              refine ⟨?_, hz_63.2⟩
              rw [if_pos ⟨⟨(nI_0le hsn (by decide)).1, (nI_0le (n := 4) hsn (by decide)).2⟩, ⟨(nI_0le hi (by omega)).1, by rw [hX.1.1]; exact (nI_0le hi (by omega)).2⟩, (by have := hc_21; simp only [Int32.lt_iff_toInt_lt, Int32.le_iff_toInt_le, ← Int32.toInt_inj, Int32.reduceToInt] at this ⊢; omega)⟩, nI_clamp (show sn < 2147483648 by omega), nI_clamp (show i < 2147483648 by omega), if_neg c_36, if_neg (by rw [esz]; simp only [Int32.lt_iff_toInt_lt, Int32.le_iff_toInt_le, ← Int32.toInt_inj, Int32.reduceToInt, e_sz]; omega), if_pos c_57]
              rw [hz_63.1, esz, nI_clamp (show sz < 2147483648 by omega)]
          · skip
            have hz30 : ¬ sz ≤ 30 := by rw [esz] at c_50; simp only [Int32.lt_iff_toInt_lt, Int32.le_iff_toInt_le, ← Int32.toInt_inj, Int32.reduceToInt, e_sz] at c_50; omega
            refine j_bipush (v := -2) C dX10_tells_53 rfl ?_
            refine hret _ _ _ _ dX10_tells_55 rfl ?_
            refine ⟨?_, mK_r⟩
            rw [if_pos ⟨⟨(nI_0le hsn (by decide)).1, (nI_0le (n := 4) hsn (by decide)).2⟩, ⟨(nI_0le hi (by omega)).1, by rw [hX.1.1]; exact (nI_0le hi (by omega)).2⟩, (by have := hc_21; simp only [Int32.lt_iff_toInt_lt, Int32.le_iff_toInt_le, ← Int32.toInt_inj, Int32.reduceToInt] at this ⊢; omega)⟩, nI_clamp (show sn < 2147483648 by omega), nI_clamp (show i < 2147483648 by omega), if_neg c_36, if_pos (by rw [esz]; simp only [Int32.lt_iff_toInt_lt, Int32.le_iff_toInt_le, ← Int32.toInt_inj, Int32.reduceToInt, e_sz]; omega)]
        · skip
          refine j_bipush (v := -11) C dX10_tells_39 rfl ?_
          refine hret _ _ _ _ dX10_tells_41 rfl ?_
          refine ⟨?_, mK_r⟩
          rw [if_pos ⟨⟨(nI_0le hsn (by decide)).1, (nI_0le (n := 4) hsn (by decide)).2⟩, ⟨(nI_0le hi (by omega)).1, by rw [hX.1.1]; exact (nI_0le hi (by omega)).2⟩, (by have := hc_21; simp only [Int32.lt_iff_toInt_lt, Int32.le_iff_toInt_le, ← Int32.toInt_inj, Int32.reduceToInt] at this ⊢; omega)⟩, nI_clamp (show sn < 2147483648 by omega), nI_clamp (show i < 2147483648 by omega), if_pos c_36]
      · skip
        have hc_21 : ¬ (0 ≤ w ∧ w < 6) := fun h => b_21 (by simp only [Int32.lt_iff_toInt_lt, Int32.le_iff_toInt_le, ← Int32.toInt_inj, Int32.reduceToInt, Int64.lt_iff_toInt_lt, Int64.le_iff_toInt_le, Int32.toInt_toInt64, Int64.reduceToInt] at h ⊢; omega)
        refine j_if_ne (tgt := 30) C dX10_tells_24 (by decide) (fun c => absurd (by decide) c) (fun _ => ?_)
        refine j_bipush (v := -2) C dX10_tells_27 rfl ?_
        refine hret _ _ _ _ dX10_tells_29 rfl ?_
        exact ⟨(if_neg (fun h => hc_21 (by have := h.2.2; simp only [Int32.lt_iff_toInt_lt, Int32.le_iff_toInt_le, ← Int32.toInt_inj, Int32.reduceToInt] at this ⊢; omega))).symm, mK_r⟩
    · skip
      refine j_if_eq (tgt := 27) C dX10_tells_12 (by decide) (fun _ => ?_) (fun c => absurd (by decide) c)
      refine j_bipush (v := -2) C dX10_tells_27 rfl ?_
      refine hret _ _ _ _ dX10_tells_29 rfl ?_
      exact ⟨(if_neg (fun h => b_9 h.2.1)).symm, mK_r⟩
  · skip
    refine j_if_eq (tgt := 27) C dX10_tells_4 (by decide) (fun _ => ?_) (fun c => absurd (by decide) c)
    refine j_bipush (v := -2) C dX10_tells_27 rfl ?_
    refine hret _ _ _ _ dX10_tells_29 rfl ?_
    exact ⟨(if_neg (fun h => b_1 h.1)).symm, mK_r⟩
set_option maxHeartbeats 4000000 in
set_option maxRecDepth 100000 in
theorem c_X10_film (l : Launch) (g : jG) (a : Nat → Nat) (x : mS) (s : Int32) (p : Int32) (q : Int32) (m t ru : Nat) (B : Nat → Nat → Int32) (N : Nat → Nat) (hX : inM x m t ru B N) : Ci l g yX10_film cX10_film 5 .int 44 978 0 0 (mW g a) [.ref (a 0), .int s, .int p, .int q] x (fun r z => if (0 ≤ s ∧ s < 4) ∧ (0 ≤ p ∧ p < x.1 0 10) ∧ (0 ≤ q ∧ q < 31) then r = q ∧ flQ x z s.toNatClampNeg q.toNatClampNeg (whS (tM B N ru) (gV x p.toNatClampNeg) (x.1 4 0)) else r = -2 ∧ mK x z) := by
  refine mk_i (by decide +kernel) rfl (fun KK hKl hKg C hin hret => ?_)
  subst hKl; subst hKg
  refine j_lv (lv' := [(0, _), (1, _), (2, _), (3, _)]) rfl ?_
  have hm6 := hX.1.2
  refine j_iload_n C dX10_film_0 rfl rfl ?_
  refine j_callis C (c_X10_isSheet _ _ _ _ _ ) dX10_film_1 jm_RX10_365 ⟨by decide, by decide, by decide, by decide⟩ rfl (Nat.le_of_ble_eq_true rfl) (fun r z hz => ?_)
  obtain ⟨hb, hz⟩ := hz; have hz := hz.symm; subst hz
  rcases hb with ⟨rfl, b_1⟩ | ⟨rfl, b_1⟩
  · skip
    obtain ⟨sn, hsn, rfl⟩ := in_of (B := 4) b_1 rfl
    refine j_if_eq (tgt := 27) C dX10_film_4 (by decide) (fun c => absurd c (by decide)) (fun _ => ?_)
    refine j_aload_n C dX10_film_7 rfl rfl ?_
    refine j_iload_n C dX10_film_8 rfl rfl ?_
    refine j_calliv C (c_X10_isGlove _ _ _ _ _ m hX.1) dX10_film_9 jm_RX10_79 ⟨_, _, _, _, wO mO, rfl, rfl⟩ ⟨by decide, by decide, by decide, by decide⟩ rfl (Nat.le_of_ble_eq_true rfl) (fun r z hz => ?_)
    obtain ⟨hb, hz⟩ := hz; have hz := hz.symm; subst hz
    rcases hb with ⟨rfl, b_9⟩ | ⟨rfl, b_9⟩
    · skip
      obtain ⟨i, hi, rfl⟩ := in_of (B := m) b_9 hX.1.1 (by omega)
      have hi6 : i < 6 := by omega
      refine j_if_eq (tgt := 27) C dX10_film_12 (by decide) (fun c => absurd c (by decide)) (fun _ => ?_)
      refine j_iload_n C dX10_film_15 rfl rfl ?_
      refine j_i2l C dX10_film_16 ?_
      refine j_lconst (v := 0) C dX10_film_17 rfl ?_
      refine j_ldc2 C dX10_film_18 jc_RX10_355 ?_
      refine j_callis C (c_X10_in _ _ _ _ _ _ _ ) dX10_film_21 jm_RX10_73 ⟨by decide, by decide, by decide, by decide⟩ rfl (Nat.le_of_ble_eq_true rfl) (fun r z hz => ?_)
      obtain ⟨hb, hz⟩ := hz; have hz := hz.symm; subst hz
      rcases hb with ⟨rfl, b_21⟩ | ⟨rfl, b_21⟩
      · skip
        have hc_21 : 0 ≤ q ∧ q < 31 := by simp only [Int32.lt_iff_toInt_lt, Int32.le_iff_toInt_le, ← Int32.toInt_inj, Int32.reduceToInt, Int64.lt_iff_toInt_lt, Int64.le_iff_toInt_le, Int32.toInt_toInt64, Int64.reduceToInt] at b_21 ⊢; omega
        obtain ⟨qn, hqn, rfl⟩ := in_of (B := 31) hc_21 rfl
        refine j_if_ne (tgt := 30) C dX10_film_24 (by decide) (fun _ => ?_) (fun c => absurd c (by decide))
        refine j_aload_n C dX10_film_30 rfl rfl ?_
        refine j_iload_n C dX10_film_31 rfl rfl ?_
        refine j_callvv C (c_X10_gathers _ _ _ _ _ m t ru B N hX i rfl hi) dX10_film_32 jm_RX10_342 ⟨_, _, _, _, wO mO, rfl, rfl⟩ ⟨by decide, by decide, by decide, by decide⟩ rfl (Nat.le_of_ble_eq_true rfl) (fun z_32 hz_32 => ?_)
        obtain ⟨hK_32, hw_32, hl_32⟩ := hz_32
        refine j_aload_n C dX10_film_35 rfl rfl ?_
        refine j_iload_n C dX10_film_36 rfl rfl ?_
        refine j_iconst (v := 0) C dX10_film_37 rfl ?_
        refine j_iload_n C dX10_film_38 rfl rfl ?_
        refine j_calliv C (c_X10_sheet _ _ _ _ _ _ _ ) dX10_film_39 jm_RX10_371 ⟨_, _, _, _, wO mO, rfl, rfl⟩ ⟨by decide, by decide, by decide, by decide⟩ rfl (Nat.le_of_ble_eq_true rfl) (fun r_39 z_39 hz_39 => ?_)
        rw [if_pos ⟨nI_0le (n := 4) hsn (by decide), by decide⟩, if_neg (by decide), if_neg (by have := nI_toInt (show qn < 2147483648 by omega); simp only [Int32.lt_iff_toInt_lt, Int32.le_iff_toInt_le, ← Int32.toInt_inj, Int32.reduceToInt, this]; omega), if_neg (nI_pos (by omega)), nI_clamp (show sn < 2147483648 by omega)] at hz_39
        obtain ⟨_, -, y2, y3, y4, y5, y6, y7⟩ := hz_39
        refine j_pop C dX10_film_42 rfl ?_
        refine j_iconst (v := 0) C dX10_film_43 rfl ?_
        refine j_istore (lv' := [(4, _), (0, _), (1, _), (2, _), (3, _)]) C dX10_film_44 (by decide) rfl ?_
        have L_46 : ∀ k : Nat, ∀ (d : Nat) (x' : mS), d ≤ qn → qn < d + k → (∀ k, k ≠ 15 → x'.1 k = z_39.1 k) → (∀ j, (j < 40 * sn ∨ 40 * sn + d ≤ j) → x'.1 15 j = z_39.1 15 j) → (∀ e, e < d → x'.1 15 (40 * sn + e) = whS (tM B N ru) (gV x i) (x.1 4 0) e) → J KK (mW (kG KK) a) 0 0 x' [(0, .ref (a 0)), (1, .int (nI sn)), (2, .int (nI i)), (3, .int (nI qn)), (4, .int (nI d))] 46 [] := by
          intro k
          induction k with
          | zero => intro d x' h1 hk hF hA hB; omega
          | succ k ih =>
            intro d x' h1 hk hF hA hB
            have e_d : (nI d).toInt = d := nI_toInt (by omega); have e_qn : (nI qn).toInt = qn := nI_toInt (by omega)
            refine j_iload C dX10_film_46 rfl ?_
            refine j_iload_n C dX10_film_48 rfl rfl ?_
            refine j_icmp_ge (tgt := 77) C dX10_film_49 (by decide) (fun c_49 => ?_) (fun c_49 => ?_)
            · skip
              have hd : d = qn := by simp only [Int32.lt_iff_toInt_lt, Int32.le_iff_toInt_le, ← Int32.toInt_inj, Int32.reduceToInt, e_d, e_qn] at c_49; omega
              subst hd
              refine j_iload_n C dX10_film_77 rfl rfl ?_
              refine hret _ _ _ _ dX10_film_78 rfl ?_
              rw [if_pos ⟨nI_0le (n := 4) hsn (by decide), ⟨(nI_0le hi (by omega)).1, by rw [hX.1.1]; exact (nI_0le hi (by omega)).2⟩, nI_0le (n := 31) hqn (by decide)⟩, nI_clamp (show sn < 2147483648 by omega), nI_clamp (show i < 2147483648 by omega), nI_clamp (show d < 2147483648 by omega)]
              refine ⟨rfl, fun k a b c e => ?_, fun j hj => ?_, ?_, ?_, ?_, fun j hj => ?_, hB⟩
              · rw [hF k (by omega), y7 k (by omega)]; exact hK_32.1 k a b c
              · rw [hF 0 (by decide), y7 0 (by decide)]; exact hK_32.2 j hj
              · rw [hF 12 (by decide), y2, hK_32.1 12 (by decide) (by decide) (by decide), if_neg (by decide)]
              · rw [hF 13 (by decide), y3, hK_32.1 13 (by decide) (by decide) (by decide)]
              · rw [hF 14 (by decide), y4, hK_32.1 14 (by decide) (by decide) (by decide)]
              · rw [hA j (by omega), y5 j hj, hK_32.1 15 (by decide) (by decide) (by decide)]
            · skip
              have hd : d < qn := by simp only [Int32.lt_iff_toInt_lt, Int32.le_iff_toInt_le, ← Int32.toInt_inj, Int32.reduceToInt, e_d, e_qn] at c_49; omega
              refine j_aload_n C dX10_film_52 rfl rfl ?_
              refine j_get C dX10_film_53 jf_RX10_60 (wO mO) rfl ?_
              refine j_bipush (v := 40) C dX10_film_56 rfl ?_
              refine j_iload_n C dX10_film_58 rfl rfl ?_
              refine j_imul C dX10_film_59 ?_
              refine j_iload C dX10_film_60 rfl ?_
              refine j_iadd C dX10_film_62 ?_
              refine j_aload_n C dX10_film_63 rfl rfl ?_
              refine j_get C dX10_film_64 jf_RX10_32 (wO mO) rfl ?_
              refine j_iload C dX10_film_67 rfl ?_
              refine j_iald C (d) dX10_film_69 (wA mA7) (rfl) (by omega) (by decide) ?_
              refine j_iast C (40 * sn + d) dX10_film_70 (wA mA15) ((congrArg (· + nI d) (pk_mul 40 sn)).trans (nI_add _ _)) (by omega) (by decide) (sMa mA15 _ _) ?_
              refine j_iinc (lv' := [(4, _), (0, _), (1, _), (2, _), (3, _)]) (v := nI (d + 1)) C dX10_film_71 rfl (j_inc1 d) (by decide) rfl ?_
              refine j_goto (tgt := 46) C dX10_film_74 (by decide) ?_
              refine j_lv (lv' := [(0, _), (1, _), (2, _), (3, _), (4, _)]) rfl ?_
              exact ih (d + 1) _ (by omega) (by omega) (fun k hk => by rw [mU_1, uM_ne hk]; exact hF k hk) (fun j hj => by rw [mU_1, uM_n (by omega)]; exact hA j (by omega)) (fun e he => by
                by_cases h : e = d
                · subst h; rw [mU_1, uM_s, hF 7 (by decide), y7 7 (by decide)]; exact hw_32 e (by omega)
                · rw [mU_1, uM_n (by omega)]; exact hB e (by omega))
        refine j_lv (lv' := [(0, _), (1, _), (2, _), (3, _), (4, _)]) rfl ?_
        exact L_46 (qn + 1) 0 z_39 (by omega) (by omega) (fun _ _ => rfl) (fun _ _ => rfl) (fun e he => absurd he (by omega))
      · skip
        have hc_21 : ¬ (0 ≤ q ∧ q < 31) := fun h => b_21 (by simp only [Int32.lt_iff_toInt_lt, Int32.le_iff_toInt_le, ← Int32.toInt_inj, Int32.reduceToInt, Int64.lt_iff_toInt_lt, Int64.le_iff_toInt_le, Int32.toInt_toInt64, Int64.reduceToInt] at h ⊢; omega)
        refine j_if_ne (tgt := 30) C dX10_film_24 (by decide) (fun c => absurd (by decide) c) (fun _ => ?_)
        refine j_bipush (v := -2) C dX10_film_27 rfl ?_
        refine hret _ _ _ _ dX10_film_29 rfl ?_
        rw [if_neg (fun h => hc_21 h.2.2)]; exact ⟨rfl, mK_r⟩
    · skip
      refine j_if_eq (tgt := 27) C dX10_film_12 (by decide) (fun _ => ?_) (fun c => absurd (by decide) c)
      refine j_bipush (v := -2) C dX10_film_27 rfl ?_
      refine hret _ _ _ _ dX10_film_29 rfl ?_
      rw [if_neg (fun h => b_9 h.2.1)]; exact ⟨rfl, mK_r⟩
  · skip
    refine j_if_eq (tgt := 27) C dX10_film_4 (by decide) (fun _ => ?_) (fun c => absurd (by decide) c)
    refine j_bipush (v := -2) C dX10_film_27 rfl ?_
    refine hret _ _ _ _ dX10_film_29 rfl ?_
    rw [if_neg (fun h => b_1 h.1)]; exact ⟨rfl, mK_r⟩
set_option maxHeartbeats 4000000 in
set_option maxRecDepth 100000 in
theorem c_X10_seesOn (l : Launch) (g : jG) (a : Nat → Nat) (x : mS) (p : Int32) (n : Int32) (m t ru : Nat) (B : Nat → Nat → Int32) (N : Nat → Nat) (hX : inM x m t ru B N) (i : Nat) (hp : p = nI i) (hi : i < m) : Ci l g yX10_seesOn cX10_seesOn 5 .int 44 978 0 0 (mW g a) [.ref (a 0), .int p, .int n] x (fun r z => r = seS (lkS (tM B N ru) (gV x i) (x.1 4 0) (x.1 4 0) (x.1 4 1) (x.1 4 2)) n 30 0 ∧ mK x z) := by
  refine mk_i (by decide +kernel) rfl (fun KK hKl hKg C hin hret => ?_)
  subst hKl; subst hKg
  refine j_lv (lv' := [(0, _), (1, _), (2, _)]) rfl ?_
  subst hp
  refine j_aload_n C dX10_seesOn_0 rfl rfl ?_
  refine j_iload_n C dX10_seesOn_1 rfl rfl ?_
  refine j_callvv C (c_X10_gathers _ _ _ _ _ m t ru B N hX i rfl hi) dX10_seesOn_2 jm_RX10_342 ⟨_, _, _, _, wO mO, rfl, rfl⟩ ⟨by decide, by decide, by decide, by decide⟩ rfl (Nat.le_of_ble_eq_true rfl) (fun z_2 hz_2 => ?_)
  obtain ⟨hK_2, hw_2, hl_2⟩ := hz_2
  refine j_iload_n C dX10_seesOn_5 rfl rfl ?_
  refine j_istore_n (lv' := [(3, _), (0, _), (1, _), (2, _)]) C dX10_seesOn_6 rfl (by decide) rfl ?_
  refine j_iconst (v := 0) C dX10_seesOn_7 rfl ?_
  refine j_istore (lv' := [(4, _), (3, _), (0, _), (1, _), (2, _)]) C dX10_seesOn_8 (by decide) rfl ?_
  have L_10 : ∀ k : Nat, ∀ (d : Nat), d ≤ 30 → 30 < d + k → (seS (lkS (tM B N ru) (gV x i) (x.1 4 0) (x.1 4 0) (x.1 4 1) (x.1 4 2)) n 30 0 = seS (lkS (tM B N ru) (gV x i) (x.1 4 0) (x.1 4 0) (x.1 4 1) (x.1 4 2)) n (30 - d) d) → J KK (mW (kG KK) a) 0 0 z_2 [(0, .ref (a 0)), (1, .int (nI i)), (2, .int n), (3, .int (zS n d)), (4, .int (nI d))] 10 [] := by
    intro k
    induction k with
    | zero => intro d h1 hk hs; omega
    | succ k ih =>
      intro d h1 hk hs
      have e_d : (nI d).toInt = d := nI_toInt (by omega)
      refine j_iload C dX10_seesOn_10 rfl ?_
      refine j_bipush (v := 30) C dX10_seesOn_12 rfl ?_
      refine j_icmp_ge (tgt := 53) C dX10_seesOn_14 (by decide) (fun c_14 => ?_) (fun c_14 => ?_)
      · skip
        have hd : 30 - d = 0 := by simp only [Int32.lt_iff_toInt_lt, Int32.le_iff_toInt_le, ← Int32.toInt_inj, Int32.reduceToInt, e_d] at c_14; omega
        refine j_iconst (v := -1) C dX10_seesOn_53 rfl ?_
        refine hret _ _ _ _ dX10_seesOn_54 rfl ?_
        exact ⟨by rw [hs, hd]; rfl, hK_2⟩
      · skip
        have hd : d < 30 := by simp only [Int32.lt_iff_toInt_lt, Int32.le_iff_toInt_le, ← Int32.toInt_inj, Int32.reduceToInt, e_d] at c_14; omega
        refine j_iload_n C dX10_seesOn_17 rfl rfl ?_
        refine j_ldcw C dX10_seesOn_18 jc_RX10_374 ?_
        refine j_imul C dX10_seesOn_21 ?_
        refine j_sipush (v := 12345) C dX10_seesOn_22 rfl ?_
        refine j_iadd C dX10_seesOn_25 ?_
        refine j_istore_n (lv' := [(3, _), (0, _), (1, _), (2, _), (4, _)]) C dX10_seesOn_26 rfl (by decide) rfl ?_
        refine j_iload_n C dX10_seesOn_27 rfl rfl ?_
        refine j_bipush (v := 9) C dX10_seesOn_28 rfl ?_
        refine j_iushr C dX10_seesOn_30 rfl ?_
        refine j_bipush (v := 100) C dX10_seesOn_31 rfl ?_
        refine j_irem C dX10_seesOn_33 (by decide) ?_
        refine j_aload_n C dX10_seesOn_34 rfl rfl ?_
        refine j_get C dX10_seesOn_35 jf_RX10_35 (wO mO) rfl ?_
        refine j_iload C dX10_seesOn_38 rfl ?_
        refine j_iald C (d) dX10_seesOn_40 (wA mA8) (rfl) (hd) (by decide) ?_
        refine j_icmp_ge (tgt := 47) C dX10_seesOn_41 (by decide) (fun c_41 => ?_) (fun c_41 => ?_)
        · skip
          refine j_iinc (lv' := [(4, _), (3, _), (0, _), (1, _), (2, _)]) (v := nI (d + 1)) C dX10_seesOn_47 rfl (j_inc1 d) (by decide) rfl ?_
          refine j_goto (tgt := 10) C dX10_seesOn_50 (by decide) ?_
          refine j_lv (lv' := [(0, _), (1, _), (2, _), (3, _), (4, _)]) rfl ?_
          exact ih (d + 1) (by omega) (by omega) (by
            rw [hs]
            obtain ⟨m9, hm9⟩ : ∃ m9, 30 - d = m9 + 1 := ⟨29 - d, by omega⟩
            rw [hm9, show 30 - (d + 1) = m9 by omega, seS, if_neg]
            rw [hl_2 d hd] at c_41
            exact fun h => (by simp only [reS, luS, zS] at h; simp only [Int32.lt_iff_toInt_lt, Int32.le_iff_toInt_le, ← Int32.toInt_inj, Int32.reduceToInt] at h c_41; omega))
        · skip
          refine j_iload C dX10_seesOn_44 rfl ?_
          refine hret _ _ _ _ dX10_seesOn_46 rfl ?_
          refine ⟨?_, hK_2⟩
          rw [hs]
          obtain ⟨m9, hm9⟩ : ∃ m9, 30 - d = m9 + 1 := ⟨29 - d, by omega⟩
          rw [hm9, seS, if_pos]
          rw [hl_2 d hd] at c_41
          simp only [reS, luS, zS]; simp only [Int32.lt_iff_toInt_lt, Int32.le_iff_toInt_le, ← Int32.toInt_inj, Int32.reduceToInt] at c_41 ⊢; omega
  refine j_lv (lv' := [(0, _), (1, _), (2, _), (3, _), (4, _)]) rfl ?_
  exact L_10 31 0 (by omega) (by omega) rfl
set_option maxHeartbeats 4000000 in
set_option maxRecDepth 100000 in
theorem c_X10_lot (l : Launch) (g : jG) (a : Nat → Nat) (x : mS) (p : Int32) (q : Int32) (m t ru : Nat) (B : Nat → Nat → Int32) (N : Nat → Nat) (hX : inM x m t ru B N) : Ci l g yX10_lot cX10_lot 3 .int 45 1002 0 0 (mW g a) [.ref (a 0), .int p, .int q] x (fun r z => r = (if (0 ≤ p ∧ p < x.1 0 10) then seS (lkS (tM B N ru) (gV x p.toNatClampNeg) (x.1 4 0) (x.1 4 0) (x.1 4 1) (x.1 4 2)) q 30 0 else -2) ∧ mK x z) := by
  refine mk_i (by decide +kernel) rfl (fun KK hKl hKg C hin hret => ?_)
  subst hKl; subst hKg
  refine j_lv (lv' := [(0, _), (1, _), (2, _)]) rfl ?_
  have hm6 := hX.1.2
  refine j_aload_n C dX10_lot_0 rfl rfl ?_
  refine j_iload_n C dX10_lot_1 rfl rfl ?_
  refine j_calliv C (c_X10_isGlove _ _ _ _ _ m hX.1) dX10_lot_2 jm_RX10_79 ⟨_, _, _, _, wO mO, rfl, rfl⟩ ⟨by decide, by decide, by decide, by decide⟩ rfl (Nat.le_of_ble_eq_true rfl) (fun r z hz => ?_)
  obtain ⟨hb, hz⟩ := hz; have hz := hz.symm; subst hz
  rcases hb with ⟨rfl, b_2⟩ | ⟨rfl, b_2⟩
  · skip
    obtain ⟨i, hi, rfl⟩ := in_of (B := m) b_2 hX.1.1 (by omega)
    have hi6 : i < 6 := by omega
    refine j_if_eq (tgt := 17) C dX10_lot_5 (by decide) (fun c => absurd c (by decide)) (fun _ => ?_)
    refine j_aload_n C dX10_lot_8 rfl rfl ?_
    refine j_iload_n C dX10_lot_9 rfl rfl ?_
    refine j_iload_n C dX10_lot_10 rfl rfl ?_
    refine j_calliv C (c_X10_seesOn _ _ _ _ _ _ m t ru B N hX i rfl hi) dX10_lot_11 jm_RX10_375 ⟨_, _, _, _, wO mO, rfl, rfl⟩ ⟨by decide, by decide, by decide, by decide⟩ rfl (Nat.le_of_ble_eq_true rfl) (fun r_11 z_11 hz_11 => ?_)
    skip
    refine j_goto (tgt := 19) C dX10_lot_14 (by decide) ?_
    refine hret _ _ _ _ dX10_lot_19 rfl ?_
    refine ok_pos ⟨(nI_0le hi (by omega)).1, by rw [hX.1.1]; exact (nI_0le hi (by omega)).2⟩ ?_
    rw [nI_clamp (show i < 2147483648 by omega)]
    exact hz_11
  · skip
    refine j_if_eq (tgt := 17) C dX10_lot_5 (by decide) (fun _ => ?_) (fun c => absurd (by decide) c)
    refine j_bipush (v := -2) C dX10_lot_17 rfl ?_
    refine hret _ _ _ _ dX10_lot_19 rfl ?_
    exact ⟨(if_neg b_2).symm, mK_r⟩
set_option maxHeartbeats 4000000 in
set_option maxRecDepth 100000 in
theorem c_X10_chance (l : Launch) (g : jG) (a : Nat → Nat) (x : mS) (p : Int32) (sd : Int32) (q : Int32) (w : Int32) (m t ru : Nat) (B : Nat → Nat → Int32) (N : Nat → Nat) (hX : inM x m t ru B N) : Cl l g yX10_chance cX10_chance 13 45 1002 0 0 (mW g a) [.ref (a 0), .int p, .int sd, .int q, .int w] x (fun r z => r = (if (0 ≤ p ∧ p < x.1 0 10) ∧ (1 ≤ q ∧ q ≤ 20) ∧ (0 ≤ w ∧ w < 2) then frS (chS (lkS (tM B N ru) (gV x p.toNatClampNeg) (x.1 4 0) (x.1 4 0) (x.1 4 1) (x.1 4 2)) sd q.toNatClampNeg) q.toNatClampNeg w else -4611686018427387904) ∧ mK x z) := by
  refine mk_l (by decide +kernel) rfl (fun KK hKl hKg C hin hret => ?_)
  subst hKl; subst hKg
  refine j_lv (lv' := [(0, _), (1, _), (2, _), (3, _), (4, _)]) rfl ?_
  have hm6 := hX.1.2
  refine j_aload_n C dX10_chance_0 rfl rfl ?_
  refine j_iload_n C dX10_chance_1 rfl rfl ?_
  refine j_calliv C (c_X10_isGlove _ _ _ _ _ m hX.1) dX10_chance_2 jm_RX10_79 ⟨_, _, _, _, wO mO, rfl, rfl⟩ ⟨by decide, by decide, by decide, by decide⟩ rfl (Nat.le_of_ble_eq_true rfl) (fun r z hz => ?_)
  obtain ⟨hb, hz⟩ := hz; have hz := hz.symm; subst hz
  rcases hb with ⟨rfl, b_2⟩ | ⟨rfl, b_2⟩
  · skip
    obtain ⟨i, hi, rfl⟩ := in_of (B := m) b_2 hX.1.1 (by omega)
    have hi6 : i < 6 := by omega
    refine j_if_eq (tgt := 31) C dX10_chance_5 (by decide) (fun c => absurd c (by decide)) (fun _ => ?_)
    refine j_iload_n C dX10_chance_8 rfl rfl ?_
    refine j_i2l C dX10_chance_9 ?_
    refine j_lconst (v := 1) C dX10_chance_10 rfl ?_
    refine j_ldc2 C dX10_chance_11 jc_RX10_378 ?_
    refine j_callis C (c_X10_in _ _ _ _ _ _ _ ) dX10_chance_14 jm_RX10_73 ⟨by decide, by decide, by decide, by decide⟩ rfl (Nat.le_of_ble_eq_true rfl) (fun r z hz => ?_)
    obtain ⟨hb, hz⟩ := hz; have hz := hz.symm; subst hz
    rcases hb with ⟨rfl, b_14⟩ | ⟨rfl, b_14⟩
    · skip
      have hc_14 : 1 ≤ q ∧ q ≤ 20 := by simp only [Int32.lt_iff_toInt_lt, Int32.le_iff_toInt_le, ← Int32.toInt_inj, Int32.reduceToInt, Int64.lt_iff_toInt_lt, Int64.le_iff_toInt_le, Int32.toInt_toInt64, Int64.reduceToInt] at b_14 ⊢; omega
      obtain ⟨qn, hqn, rfl⟩ := in_of (B := 21) (q := q) (m := 21) (by simp only [Int32.lt_iff_toInt_lt, Int32.le_iff_toInt_le, ← Int32.toInt_inj, Int32.reduceToInt] at hc_14 ⊢; omega) rfl
      have hq1 : 1 ≤ qn := by simp only [Int32.lt_iff_toInt_lt, Int32.le_iff_toInt_le, ← Int32.toInt_inj, Int32.reduceToInt, nI_toInt (show qn < 2147483648 by omega)] at hc_14; omega
      refine j_if_eq (tgt := 31) C dX10_chance_17 (by decide) (fun c => absurd c (by decide)) (fun _ => ?_)
      refine j_iload C dX10_chance_20 rfl ?_
      refine j_i2l C dX10_chance_22 ?_
      refine j_lconst (v := 0) C dX10_chance_23 rfl ?_
      refine j_lconst (v := 1) C dX10_chance_24 rfl ?_
      refine j_callis C (c_X10_in _ _ _ _ _ _ _ ) dX10_chance_25 jm_RX10_73 ⟨by decide, by decide, by decide, by decide⟩ rfl (Nat.le_of_ble_eq_true rfl) (fun r z hz => ?_)
      obtain ⟨hb, hz⟩ := hz; have hz := hz.symm; subst hz
      rcases hb with ⟨rfl, b_25⟩ | ⟨rfl, b_25⟩
      · skip
        have hc_25 : 0 ≤ w ∧ w < 2 := by simp only [Int32.lt_iff_toInt_lt, Int32.le_iff_toInt_le, ← Int32.toInt_inj, Int32.reduceToInt, Int64.lt_iff_toInt_lt, Int64.le_iff_toInt_le, Int32.toInt_toInt64, Int64.reduceToInt] at b_25 ⊢; omega
        refine j_if_ne (tgt := 35) C dX10_chance_28 (by decide) (fun _ => ?_) (fun c => absurd c (by decide))
        refine j_lconst (v := 0) C dX10_chance_35 rfl ?_
        refine j_lstore (lv' := [(5, _), (0, _), (1, _), (2, _), (3, _), (4, _)]) C dX10_chance_36 (by decide) rfl ?_
        refine j_iconst (v := 0) C dX10_chance_38 rfl ?_
        refine j_istore (lv' := [(7, _), (5, _), (0, _), (1, _), (2, _), (3, _), (4, _)]) C dX10_chance_39 (by decide) rfl ?_
        have L_41 : ∀ k : Nat, ∀ (d : Nat) (x' : mS), d ≤ qn → qn < d + k → mK x x' → J KK (mW (kG KK) a) 0 0 x' [(0, .ref (a 0)), (1, .int (nI i)), (2, .int sd), (3, .int (nI qn)), (4, .int w), (5, .long (lN (chS (lkS (tM B N ru) (gV x i) (x.1 4 0) (x.1 4 0) (x.1 4 1) (x.1 4 2)) sd d))), (7, .int (nI d))] 41 [] := by
          intro k
          induction k with
          | zero => intro d x' h1 hk hK; omega
          | succ k ih =>
            intro d x' h1 hk hK
            have e_d : (nI d).toInt = d := nI_toInt (by omega); have e_qn : (nI qn).toInt = qn := nI_toInt (by omega)
            refine j_iload C dX10_chance_41 rfl ?_
            refine j_iload_n C dX10_chance_43 rfl rfl ?_
            refine j_icmp_ge (tgt := 76) C dX10_chance_44 (by decide) (fun c_44 => ?_) (fun c_44 => ?_)
            · skip
              have hd : d = qn := by simp only [Int32.lt_iff_toInt_lt, Int32.le_iff_toInt_le, ← Int32.toInt_inj, Int32.reduceToInt, e_d, e_qn] at c_44; omega
              subst hd
              have hle := chS_le (lk := (lkS (tM B N ru) (gV x i) (x.1 4 0) (x.1 4 0) (x.1 4 1) (x.1 4 2))) (seed := sd) d
              refine j_lload C dX10_chance_76 rfl ?_
              refine j_lstore (lv' := [(7, _), (0, _), (1, _), (2, _), (3, _), (4, _), (5, _)]) C dX10_chance_78 (by decide) rfl ?_
              refine j_iload_n C dX10_chance_80 rfl rfl ?_
              refine j_i2l C dX10_chance_81 ?_
              rw [nI_l (show d < 2 ^ 31 by omega)]
              refine j_lstore (lv' := [(9, _), (7, _), (0, _), (1, _), (2, _), (3, _), (4, _), (5, _)]) C dX10_chance_82 (by decide) rfl ?_
              have L_84 : ∀ k : Nat, ∀ (P Q : Nat), Q < k → P ≤ 10000000000000000 → Q ≤ 10000000000000000 → 0 < P + Q → Nat.gcd P Q = Nat.gcd ((chS (lkS (tM B N ru) (gV x i) (x.1 4 0) (x.1 4 0) (x.1 4 1) (x.1 4 2)) sd d)) (d) → J KK (mW (kG KK) a) 0 0 x' [(0, .ref (a 0)), (3, .int (nI d)), (4, .int w), (5, .long (lN (chS (lkS (tM B N ru) (gV x i) (x.1 4 0) (x.1 4 0) (x.1 4 1) (x.1 4 2)) sd d))), (7, .long (lN P)), (9, .long (lN Q))] 84 [] := by
                intro k
                induction k with
                | zero => intro P Q hk hP hQ hpq hG; omega
                | succ k ih =>
                  intro P Q hk hP hQ hpq hG
                  refine j_lload C dX10_chance_84 rfl ?_
                  refine j_lconst (v := 0) C dX10_chance_86 rfl ?_
                  refine j_lcmp C dX10_chance_87 ?_
                  refine j_if_eq (tgt := 109) C dX10_chance_88 (by decide) (fun c_88 => ?_) (fun c_88 => ?_)
                  · rw [lg_cmp_eq] at c_88
                    have hQ0 : Q = 0 := (lN_inj0 (by omega)).mp c_88
                    subst hQ0
                    rw [Nat.gcd_zero_right] at hG
                    have hP0 : 0 < P := by omega
                    refine j_iload C dX10_chance_109 rfl ?_
                    refine j_if_ne (tgt := 122) C dX10_chance_111 (by decide) (fun c_111 => ?_) (fun c_111 => ?_)
                    · skip
                      refine j_iload_n C dX10_chance_122 rfl rfl ?_
                      refine j_i2l C dX10_chance_123 ?_
                      rw [nI_l (show d < 2 ^ 31 by omega)]
                      refine j_lload C dX10_chance_124 rfl ?_
                      refine j_ldiv C dX10_chance_126 (fun h => absurd ((lN_inj0 (by omega)).mp h) (by omega)) ?_
                      refine hret _ _ _ _ dX10_chance_127 ?_
                      refine ok_pos ⟨⟨(nI_0le hi (by omega)).1, by rw [hX.1.1]; exact (nI_0le hi (by omega)).2⟩, hc_14, hc_25⟩ ?_
                      rw [nI_clamp (show i < 2147483648 by omega), nI_clamp (show d < 2147483648 by omega)]
                      refine ⟨?_, hK⟩
                      rw [frS, ← hG, if_neg c_111]
                      exact pk_lDiv (by omega) (by omega) (by omega)
                    · skip
                      refine j_lload C dX10_chance_114 rfl ?_
                      refine j_lload C dX10_chance_116 rfl ?_
                      refine j_ldiv C dX10_chance_118 (fun h => absurd ((lN_inj0 (by omega)).mp h) (by omega)) ?_
                      refine j_goto (tgt := 127) C dX10_chance_119 (by decide) ?_
                      refine hret _ _ _ _ dX10_chance_127 ?_
                      refine ok_pos ⟨⟨(nI_0le hi (by omega)).1, by rw [hX.1.1]; exact (nI_0le hi (by omega)).2⟩, hc_14, hc_25⟩ ?_
                      rw [nI_clamp (show i < 2147483648 by omega), nI_clamp (show d < 2147483648 by omega)]
                      refine ⟨?_, hK⟩
                      rw [frS, ← hG, if_pos c_111]
                      exact pk_lDiv (by omega) (by omega) (by omega)
                  · rw [lg_cmp_eq] at c_88
                    have hQ0 : 0 < Q := Nat.pos_of_ne_zero (fun h => c_88 ((lN_inj0 (by omega)).mpr h))
                    refine j_lload C dX10_chance_91 rfl ?_
                    refine j_lload C dX10_chance_93 rfl ?_
                    refine j_lrem C dX10_chance_95 (fun h => absurd ((lN_inj0 (by omega)).mp h) (by omega)) ?_
                    refine j_lstore (lv' := [(11, _), (0, _), (3, _), (4, _), (5, _), (7, _), (9, _)]) C dX10_chance_96 (by decide) rfl ?_
                    refine j_lload C dX10_chance_98 rfl ?_
                    refine j_lstore (lv' := [(7, _), (11, _), (0, _), (3, _), (4, _), (5, _), (9, _)]) C dX10_chance_100 (by decide) rfl ?_
                    refine j_lload C dX10_chance_102 rfl ?_
                    refine j_lstore (lv' := [(9, _), (7, _), (11, _), (0, _), (3, _), (4, _), (5, _)]) C dX10_chance_104 (by decide) rfl ?_
                    refine j_goto (tgt := 84) C dX10_chance_106 (by decide) ?_
                    refine j_lv (lv' := [(0, _), (3, _), (4, _), (5, _), (7, _), (9, _)]) rfl ?_
                    rw [pk_lRem (by omega) hQ0 (by omega)]
                    have hlt9 : P % Q < Q := Nat.mod_lt _ hQ0
                    exact ih Q (P % Q) (by omega) (by omega) (by omega) (by omega) (by rw [← hG, Nat.gcd_comm P Q, Nat.gcd_rec Q P, Nat.gcd_comm])
              refine j_lv (lv' := [(0, _), (3, _), (4, _), (5, _), (7, _), (9, _)]) rfl ?_
              exact L_84 (d + 1) ((chS (lkS (tM B N ru) (gV x i) (x.1 4 0) (x.1 4 0) (x.1 4 1) (x.1 4 2)) sd d)) (d) (by omega) (by omega) (by omega) (by omega) rfl
            · skip
              have hd : d < qn := by simp only [Int32.lt_iff_toInt_lt, Int32.le_iff_toInt_le, ← Int32.toInt_inj, Int32.reduceToInt, e_d, e_qn] at c_44; omega
              refine j_lload C dX10_chance_47 rfl ?_
              refine j_aload_n C dX10_chance_49 rfl rfl ?_
              refine j_iload_n C dX10_chance_50 rfl rfl ?_
              refine j_iload_n C dX10_chance_51 rfl rfl ?_
              refine j_iload C dX10_chance_52 rfl ?_
              refine j_iadd C dX10_chance_54 ?_
              refine j_calliv C (c_X10_seesOn _ _ _ _ _ _ m t ru B N (mK_in hX hK) i rfl hi) dX10_chance_55 jm_RX10_375 ⟨_, _, _, _, wO mO, rfl, rfl⟩ ⟨by decide, by decide, by decide, by decide⟩ rfl (Nat.le_of_ble_eq_true rfl) (fun r_55 z_55 hz_55 => ?_)
              obtain ⟨hr_55, hK_55⟩ := hz_55
              rw [mK_gV hK, mK_4 hK] at hr_55
              have hr_55 := hr_55.symm; subst hr_55
              refine j_iconst (v := -1) C dX10_chance_58 rfl ?_
              refine j_icmp_ne (tgt := 66) C dX10_chance_59 (by decide) (fun c_59 => ?_) (fun c_59 => ?_)
              · skip
                refine j_lconst (v := 1) C dX10_chance_66 rfl ?_
                refine j_ladd C dX10_chance_67 ?_
                refine j_lstore (lv' := [(5, _), (0, _), (1, _), (2, _), (3, _), (4, _), (7, _)]) C dX10_chance_68 (by decide) rfl ?_
                refine j_iinc (lv' := [(7, _), (5, _), (0, _), (1, _), (2, _), (3, _), (4, _)]) (v := nI (d + 1)) C dX10_chance_70 rfl (j_inc1 d) (by decide) rfl ?_
                refine j_goto (tgt := 41) C dX10_chance_73 (by decide) ?_
                refine j_lv (lv' := [(0, _), (1, _), (2, _), (3, _), (4, _), (5, _), (7, _)]) rfl ?_
                have h9 := ih (d + 1) z_55 (by omega) (by omega) (mK_t hK hK_55)
                rw [chS, if_neg c_59, ← lN_add] at h9
                exact h9
              · skip
                refine j_lconst (v := 0) C dX10_chance_62 rfl ?_
                refine j_goto (tgt := 67) C dX10_chance_63 (by decide) ?_
                refine j_ladd C dX10_chance_67 ?_
                refine j_lstore (lv' := [(5, _), (0, _), (1, _), (2, _), (3, _), (4, _), (7, _)]) C dX10_chance_68 (by decide) rfl ?_
                refine j_iinc (lv' := [(7, _), (5, _), (0, _), (1, _), (2, _), (3, _), (4, _)]) (v := nI (d + 1)) C dX10_chance_70 rfl (j_inc1 d) (by decide) rfl ?_
                refine j_goto (tgt := 41) C dX10_chance_73 (by decide) ?_
                refine j_lv (lv' := [(0, _), (1, _), (2, _), (3, _), (4, _), (5, _), (7, _)]) rfl ?_
                have h9 := ih (d + 1) z_55 (by omega) (by omega) (mK_t hK hK_55)
                rw [chS, if_pos c_59, ← lN_add] at h9
                exact h9
        refine j_lv (lv' := [(0, _), (1, _), (2, _), (3, _), (4, _), (5, _), (7, _)]) rfl ?_
        exact L_41 (qn + 1) 0 x (by omega) (by omega) mK_r
      · skip
        have hc_25 : ¬ (0 ≤ w ∧ w < 2) := fun h => b_25 (by simp only [Int32.lt_iff_toInt_lt, Int32.le_iff_toInt_le, ← Int32.toInt_inj, Int32.reduceToInt, Int64.lt_iff_toInt_lt, Int64.le_iff_toInt_le, Int32.toInt_toInt64, Int64.reduceToInt] at h ⊢; omega)
        refine j_if_ne (tgt := 35) C dX10_chance_28 (by decide) (fun c => absurd (by decide) c) (fun _ => ?_)
        refine j_ldc2 C dX10_chance_31 jc_RX10_349 ?_
        refine hret _ _ _ _ dX10_chance_34 ?_
        exact ⟨(if_neg (fun h => hc_25 h.2.2)).symm, mK_r⟩
    · skip
      have hc_14 : ¬ (1 ≤ q ∧ q ≤ 20) := fun h => b_14 (by simp only [Int32.lt_iff_toInt_lt, Int32.le_iff_toInt_le, ← Int32.toInt_inj, Int32.reduceToInt, Int64.lt_iff_toInt_lt, Int64.le_iff_toInt_le, Int32.toInt_toInt64, Int64.reduceToInt] at h ⊢; omega)
      refine j_if_eq (tgt := 31) C dX10_chance_17 (by decide) (fun _ => ?_) (fun c => absurd (by decide) c)
      refine j_ldc2 C dX10_chance_31 jc_RX10_349 ?_
      refine hret _ _ _ _ dX10_chance_34 ?_
      exact ⟨(if_neg (fun h => hc_14 h.2.1)).symm, mK_r⟩
  · skip
    refine j_if_eq (tgt := 31) C dX10_chance_5 (by decide) (fun _ => ?_) (fun c => absurd (by decide) c)
    refine j_ldc2 C dX10_chance_31 jc_RX10_349 ?_
    refine hret _ _ _ _ dX10_chance_34 ?_
    exact ⟨(if_neg (fun h => b_2 h.1)).symm, mK_r⟩
