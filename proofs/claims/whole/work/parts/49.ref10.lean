/-! THE REFERENCE: the calls that ask -/
theorem wh_in {T : Nat → List Int32} {r : Nat → Int32} {f : Int32} {d : Nat} (h : 0 ≤ r 2 ∧ r 2 ≤ 19) (hn : ¬ whS T r f d = -1) : 0 ≤ whS T r f d ∧ whS T r f d ≤ 19 := by
  rw [whS] at hn ⊢
  split
  · rename_i c; rw [if_pos c] at hn; exact absurd rfl hn
  · exact plS_in h d
theorem as_2 {T : Nat → List Int32} {r : Nat → Int32} {p d f : Int32} : asS T r p d f 2 = wiS (vaS (enS r p d f) (T 2)) 0 99 := by
  unfold asS; rw [if_neg (by decide), if_neg (by decide)]
theorem mi_as {T : Nat → List Int32} {r : Nat → Int32} {f w : Int32} {d : Nat} (h : w = whS T r f d) : (if w = -1 then 0 else asS T r w (nI d) f 2) = miS T r f d := by
  subst h; rw [miS]; split
  · rfl
  · rw [as_2]

set_option maxHeartbeats 4000000 in
set_option maxRecDepth 100000 in
theorem c_X10_day (l : Launch) (g : jG) (a : Nat → Nat) (x : mS) (p : Int32) (q : Int32) (w : Int32) (m t ru : Nat) (B : Nat → Nat → Int32) (N : Nat → Nat) (hX : inM x m t ru B N) : Ci l g yX10_day cX10_day 4 .int 44 978 0 0 (mW g a) [.ref (a 0), .int p, .int q, .int w] x (fun r z => r = (if (0 ≤ p ∧ p < x.1 0 10) ∧ (0 ≤ q ∧ q < 30) ∧ (0 ≤ w ∧ w < 3) then daS (tM B N ru) (gV x p.toNatClampNeg) (x.1 4 0) (x.1 4 1) (x.1 4 2) q.toNatClampNeg w else -2) ∧ mK x z) := by
  refine mk_i (by decide +kernel) rfl (fun KK hKl hKg C hin hret => ?_)
  subst hKl; subst hKg
  refine j_lv (lv' := [(0, _), (1, _), (2, _), (3, _)]) rfl ?_
  have hm6 := hX.1.2
  refine j_aload_n C dX10_day_0 rfl rfl ?_
  refine j_iload_n C dX10_day_1 rfl rfl ?_
  refine j_calliv C (c_X10_isGlove _ _ _ _ _ m hX.1) dX10_day_2 jm_RX10_79 ⟨_, _, _, _, wO mO, rfl, rfl⟩ ⟨by decide, by decide, by decide, by decide⟩ rfl (Nat.le_of_ble_eq_true rfl) (fun r z hz => ?_)
  obtain ⟨hb, hz⟩ := hz; have hz := hz.symm; subst hz
  rcases hb with ⟨rfl, b_2⟩ | ⟨rfl, b_2⟩
  · skip
    obtain ⟨i, hi, rfl⟩ := in_of (B := m) b_2 hX.1.1 (by omega)
    have hi6 : i < 6 := by omega
    refine j_if_eq (tgt := 32) C dX10_day_5 (by decide) (fun c => absurd c (by decide)) (fun _ => ?_)
    refine j_iload_n C dX10_day_8 rfl rfl ?_
    refine j_i2l C dX10_day_9 ?_
    refine j_lconst (v := 0) C dX10_day_10 rfl ?_
    refine j_ldc2 C dX10_day_11 jc_RX10_338 ?_
    refine j_callis C (c_X10_in _ _ _ _ _ _ _ ) dX10_day_14 jm_RX10_73 ⟨by decide, by decide, by decide, by decide⟩ rfl (Nat.le_of_ble_eq_true rfl) (fun r z hz => ?_)
    obtain ⟨hb, hz⟩ := hz; have hz := hz.symm; subst hz
    rcases hb with ⟨rfl, b_14⟩ | ⟨rfl, b_14⟩
    · skip
      have hc_14 : 0 ≤ q ∧ q < 30 := by simp only [Int32.lt_iff_toInt_lt, Int32.le_iff_toInt_le, ← Int32.toInt_inj, Int32.reduceToInt, Int64.lt_iff_toInt_lt, Int64.le_iff_toInt_le, Int32.toInt_toInt64, Int64.reduceToInt] at b_14 ⊢; omega
      obtain ⟨qn, hqn, rfl⟩ := in_of (B := 30) hc_14 rfl
      refine j_if_eq (tgt := 32) C dX10_day_17 (by decide) (fun c => absurd c (by decide)) (fun _ => ?_)
      refine j_iload_n C dX10_day_20 rfl rfl ?_
      refine j_i2l C dX10_day_21 ?_
      refine j_lconst (v := 0) C dX10_day_22 rfl ?_
      refine j_ldc2 C dX10_day_23 jc_RX10_340 ?_
      refine j_callis C (c_X10_in _ _ _ _ _ _ _ ) dX10_day_26 jm_RX10_73 ⟨by decide, by decide, by decide, by decide⟩ rfl (Nat.le_of_ble_eq_true rfl) (fun r z hz => ?_)
      obtain ⟨hb, hz⟩ := hz; have hz := hz.symm; subst hz
      rcases hb with ⟨rfl, b_26⟩ | ⟨rfl, b_26⟩
      · skip
        have hc_26 : 0 ≤ w ∧ w < 3 := by simp only [Int32.lt_iff_toInt_lt, Int32.le_iff_toInt_le, ← Int32.toInt_inj, Int32.reduceToInt, Int64.lt_iff_toInt_lt, Int64.le_iff_toInt_le, Int32.toInt_toInt64, Int64.reduceToInt] at b_26 ⊢; omega
        refine j_if_ne (tgt := 35) C dX10_day_29 (by decide) (fun _ => ?_) (fun c => absurd c (by decide))
        refine j_aload_n C dX10_day_35 rfl rfl ?_
        refine j_iload_n C dX10_day_36 rfl rfl ?_
        refine j_callvv C (c_X10_gathers _ _ _ _ _ m t ru B N hX i rfl hi) dX10_day_37 jm_RX10_342 ⟨_, _, _, _, wO mO, rfl, rfl⟩ ⟨by decide, by decide, by decide, by decide⟩ rfl (Nat.le_of_ble_eq_true rfl) (fun z_37 hz_37 => ?_)
        obtain ⟨hK_37, hw_37, hl_37⟩ := hz_37
        refine j_iload_n C dX10_day_40 rfl rfl ?_
        refine j_if_ne (tgt := 53) C dX10_day_41 (by decide) (fun c_41 => ?_) (fun c_41 => ?_)
        · skip
          refine j_iload_n C dX10_day_53 rfl rfl ?_
          refine j_iconst (v := 1) C dX10_day_54 rfl ?_
          refine j_icmp_ne (tgt := 67) C dX10_day_55 (by decide) (fun c_55 => ?_) (fun c_55 => ?_)
          · skip
            refine j_aload_n C dX10_day_67 rfl rfl ?_
            refine j_iload_n C dX10_day_68 rfl rfl ?_
            refine j_iload_n C dX10_day_69 rfl rfl ?_
            refine j_calliv C (c_X10_mindsOn _ _ _ _ _ _ m t ru B N (mK_in hX hK_37) i qn rfl hi rfl hqn (fun h => by rw [hw_37 qn hqn] at h ⊢; exact wh_in (hX.2.2.2.2.2 i hi) h)) dX10_day_70 jm_RX10_346 ⟨_, _, _, _, wO mO, rfl, rfl⟩ ⟨by decide, by decide, by decide, by decide⟩ rfl (Nat.le_of_ble_eq_true rfl) (fun r_70 z_70 hz_70 => ?_)
            skip
            refine hret _ _ _ _ dX10_day_73 rfl ?_
            refine ok_pos ⟨⟨(nI_0le hi (by omega)).1, by rw [hX.1.1]; exact (nI_0le hi (by omega)).2⟩, nI_0le (n := 30) hqn (by decide), hc_26⟩ ?_
            rw [nI_clamp (show i < 2147483648 by omega), nI_clamp (show qn < 2147483648 by omega)]
            refine ⟨?_, mK_t hK_37 (mK_h hz_70.1)⟩
            rw [daS, if_neg c_41, if_neg c_55, hz_70.2, mK_gV hK_37, mK_4 hK_37]
            exact mi_as (hw_37 qn hqn)
          · skip
            refine j_aload_n C dX10_day_58 rfl rfl ?_
            refine j_get C dX10_day_59 jf_RX10_35 (wO mO) rfl ?_
            refine j_iload_n C dX10_day_62 rfl rfl ?_
            refine j_iald C (qn) dX10_day_63 (wA mA8) (rfl) (hqn) (by decide) ?_
            refine j_goto (tgt := 73) C dX10_day_64 (by decide) ?_
            refine hret _ _ _ _ dX10_day_73 rfl ?_
            refine ok_pos ⟨⟨(nI_0le hi (by omega)).1, by rw [hX.1.1]; exact (nI_0le hi (by omega)).2⟩, nI_0le (n := 30) hqn (by decide), hc_26⟩ ?_
            rw [nI_clamp (show i < 2147483648 by omega), nI_clamp (show qn < 2147483648 by omega)]
            exact ⟨by rw [daS, if_neg c_41, if_pos c_55]; exact hl_37 qn hqn, hK_37⟩
        · skip
          refine j_aload_n C dX10_day_44 rfl rfl ?_
          refine j_get C dX10_day_45 jf_RX10_32 (wO mO) rfl ?_
          refine j_iload_n C dX10_day_48 rfl rfl ?_
          refine j_iald C (qn) dX10_day_49 (wA mA7) (rfl) (hqn) (by decide) ?_
          refine j_goto (tgt := 73) C dX10_day_50 (by decide) ?_
          refine hret _ _ _ _ dX10_day_73 rfl ?_
          refine ok_pos ⟨⟨(nI_0le hi (by omega)).1, by rw [hX.1.1]; exact (nI_0le hi (by omega)).2⟩, nI_0le (n := 30) hqn (by decide), hc_26⟩ ?_
          rw [nI_clamp (show i < 2147483648 by omega), nI_clamp (show qn < 2147483648 by omega)]
          exact ⟨by rw [daS, if_pos c_41]; exact hw_37 qn hqn, hK_37⟩
      · skip
        have hc_26 : ¬ (0 ≤ w ∧ w < 3) := fun h => b_26 (by simp only [Int32.lt_iff_toInt_lt, Int32.le_iff_toInt_le, ← Int32.toInt_inj, Int32.reduceToInt, Int64.lt_iff_toInt_lt, Int64.le_iff_toInt_le, Int32.toInt_toInt64, Int64.reduceToInt] at h ⊢; omega)
        refine j_if_ne (tgt := 35) C dX10_day_29 (by decide) (fun c => absurd (by decide) c) (fun _ => ?_)
        refine j_bipush (v := -2) C dX10_day_32 rfl ?_
        refine hret _ _ _ _ dX10_day_34 rfl ?_
        exact ⟨(if_neg (fun h => hc_26 h.2.2)).symm, mK_r⟩
    · skip
      have hc_14 : ¬ (0 ≤ q ∧ q < 30) := fun h => b_14 (by simp only [Int32.lt_iff_toInt_lt, Int32.le_iff_toInt_le, ← Int32.toInt_inj, Int32.reduceToInt, Int64.lt_iff_toInt_lt, Int64.le_iff_toInt_le, Int32.toInt_toInt64, Int64.reduceToInt] at h ⊢; omega)
      refine j_if_eq (tgt := 32) C dX10_day_17 (by decide) (fun _ => ?_) (fun c => absurd (by decide) c)
      refine j_bipush (v := -2) C dX10_day_32 rfl ?_
      refine hret _ _ _ _ dX10_day_34 rfl ?_
      exact ⟨(if_neg (fun h => hc_14 h.2.1)).symm, mK_r⟩
  · skip
    refine j_if_eq (tgt := 32) C dX10_day_5 (by decide) (fun _ => ?_) (fun c => absurd (by decide) c)
    refine j_bipush (v := -2) C dX10_day_32 rfl ?_
    refine hret _ _ _ _ dX10_day_34 rfl ?_
    exact ⟨(if_neg (fun h => b_2 h.1)).symm, mK_r⟩
set_option maxHeartbeats 4000000 in
set_option maxRecDepth 100000 in
theorem c_X10_found (l : Launch) (g : jG) (a : Nat → Nat) (x : mS) (p : Int32) (q : Int32) (w : Int32) (m t ru : Nat) (B : Nat → Nat → Int32) (N : Nat → Nat) (hX : inM x m t ru B N) : Cl l g yX10_found cX10_found 16 44 978 0 0 (mW g a) [.ref (a 0), .int p, .int q, .int w] x (fun r z => r = (if (0 ≤ p ∧ p < x.1 0 10) ∧ (0 ≤ q ∧ q < 9) ∧ (0 ≤ w ∧ w < 2) then fdS (lkS (tM B N ru) (gV x p.toNatClampNeg) (x.1 4 0) (x.1 4 0) (x.1 4 1) (x.1 4 2)) q.toNatClampNeg w else -4611686018427387904) ∧ mK x z) := by
  refine mk_l (by decide +kernel) rfl (fun KK hKl hKg C hin hret => ?_)
  subst hKl; subst hKg
  refine j_lv (lv' := [(0, _), (1, _), (2, _), (3, _)]) rfl ?_
  have hm6 := hX.1.2
  refine j_aload_n C dX10_found_0 rfl rfl ?_
  refine j_iload_n C dX10_found_1 rfl rfl ?_
  refine j_calliv C (c_X10_isGlove _ _ _ _ _ m hX.1) dX10_found_2 jm_RX10_79 ⟨_, _, _, _, wO mO, rfl, rfl⟩ ⟨by decide, by decide, by decide, by decide⟩ rfl (Nat.le_of_ble_eq_true rfl) (fun r z hz => ?_)
  obtain ⟨hb, hz⟩ := hz; have hz := hz.symm; subst hz
  rcases hb with ⟨rfl, b_2⟩ | ⟨rfl, b_2⟩
  · skip
    obtain ⟨i, hi, rfl⟩ := in_of (B := m) b_2 hX.1.1 (by omega)
    have hi6 : i < 6 := by omega
    refine j_if_eq (tgt := 30) C dX10_found_5 (by decide) (fun c => absurd c (by decide)) (fun _ => ?_)
    refine j_iload_n C dX10_found_8 rfl rfl ?_
    refine j_i2l C dX10_found_9 ?_
    refine j_lconst (v := 0) C dX10_found_10 rfl ?_
    refine j_ldc2 C dX10_found_11 jc_RX10_104 ?_
    refine j_callis C (c_X10_in _ _ _ _ _ _ _ ) dX10_found_14 jm_RX10_73 ⟨by decide, by decide, by decide, by decide⟩ rfl (Nat.le_of_ble_eq_true rfl) (fun r z hz => ?_)
    obtain ⟨hb, hz⟩ := hz; have hz := hz.symm; subst hz
    rcases hb with ⟨rfl, b_14⟩ | ⟨rfl, b_14⟩
    · skip
      have hc_14 : 0 ≤ q ∧ q < 9 := by simp only [Int32.lt_iff_toInt_lt, Int32.le_iff_toInt_le, ← Int32.toInt_inj, Int32.reduceToInt, Int64.lt_iff_toInt_lt, Int64.le_iff_toInt_le, Int32.toInt_toInt64, Int64.reduceToInt] at b_14 ⊢; omega
      obtain ⟨qn, hqn, rfl⟩ := in_of (B := 9) hc_14 rfl
      refine j_if_eq (tgt := 30) C dX10_found_17 (by decide) (fun c => absurd c (by decide)) (fun _ => ?_)
      refine j_iload_n C dX10_found_20 rfl rfl ?_
      refine j_i2l C dX10_found_21 ?_
      refine j_lconst (v := 0) C dX10_found_22 rfl ?_
      refine j_lconst (v := 1) C dX10_found_23 rfl ?_
      refine j_callis C (c_X10_in _ _ _ _ _ _ _ ) dX10_found_24 jm_RX10_73 ⟨by decide, by decide, by decide, by decide⟩ rfl (Nat.le_of_ble_eq_true rfl) (fun r z hz => ?_)
      obtain ⟨hb, hz⟩ := hz; have hz := hz.symm; subst hz
      rcases hb with ⟨rfl, b_24⟩ | ⟨rfl, b_24⟩
      · skip
        have hc_24 : 0 ≤ w ∧ w < 2 := by simp only [Int32.lt_iff_toInt_lt, Int32.le_iff_toInt_le, ← Int32.toInt_inj, Int32.reduceToInt, Int64.lt_iff_toInt_lt, Int64.le_iff_toInt_le, Int32.toInt_toInt64, Int64.reduceToInt] at b_24 ⊢; omega
        refine j_if_ne (tgt := 34) C dX10_found_27 (by decide) (fun _ => ?_) (fun c => absurd c (by decide))
        refine j_aload_n C dX10_found_34 rfl rfl ?_
        refine j_iload_n C dX10_found_35 rfl rfl ?_
        refine j_callvv C (c_X10_gathers _ _ _ _ _ m t ru B N hX i rfl hi) dX10_found_36 jm_RX10_342 ⟨_, _, _, _, wO mO, rfl, rfl⟩ ⟨by decide, by decide, by decide, by decide⟩ rfl (Nat.le_of_ble_eq_true rfl) (fun z_36 hz_36 => ?_)
        obtain ⟨hK_36, hw_36, hl_36⟩ := hz_36
        refine j_lconst (v := 1) C dX10_found_39 rfl ?_
        refine j_lstore (lv' := [(4, _), (0, _), (1, _), (2, _), (3, _)]) C dX10_found_40 (by decide) rfl ?_
        refine j_lconst (v := 1) C dX10_found_42 rfl ?_
        refine j_lstore (lv' := [(6, _), (4, _), (0, _), (1, _), (2, _), (3, _)]) C dX10_found_43 (by decide) rfl ?_
        refine j_iconst (v := 0) C dX10_found_45 rfl ?_
        refine j_istore (lv' := [(8, _), (6, _), (4, _), (0, _), (1, _), (2, _), (3, _)]) C dX10_found_46 (by decide) rfl ?_
        have L_48 : ∀ k : Nat, ∀ (d : Nat), d ≤ qn → qn < d + k → J KK (mW (kG KK) a) 0 0 z_36 [(0, .ref (a 0)), (1, .int (nI i)), (2, .int (nI qn)), (3, .int w), (4, .long (lN (unS (lkS (tM B N ru) (gV x i) (x.1 4 0) (x.1 4 0) (x.1 4 1) (x.1 4 2)) d))), (6, .long (lN (100 ^ d))), (8, .int (nI d))] 48 [] := by
          intro k
          induction k with
          | zero => intro d h1 hk; omega
          | succ k ih =>
            intro d h1 hk
            have e_d : (nI d).toInt = d := nI_toInt (by omega); have e_qn : (nI qn).toInt = qn := nI_toInt (by omega)
            have hu := unS_le (lk := (lkS (tM B N ru) (gV x i) (x.1 4 0) (x.1 4 0) (x.1 4 1) (x.1 4 2))) d
            have hp8 := p100 (n := d) (by omega)
            refine j_iload C dX10_found_48 rfl ?_
            refine j_iload_n C dX10_found_50 rfl rfl ?_
            refine j_icmp_ge (tgt := 84) C dX10_found_51 (by decide) (fun c_51 => ?_) (fun c_51 => ?_)
            · skip
              have hd : d = qn := by simp only [Int32.lt_iff_toInt_lt, Int32.le_iff_toInt_le, ← Int32.toInt_inj, Int32.reduceToInt, e_d, e_qn] at c_51; omega
              subst hd
              have hB0 : 0 < 100 ^ d := Nat.pow_pos (by decide)
              refine j_lload C dX10_found_84 rfl ?_
              refine j_lload C dX10_found_86 rfl ?_
              refine j_lsub C dX10_found_88 ?_
              refine j_lstore (lv' := [(8, _), (0, _), (1, _), (2, _), (3, _), (4, _), (6, _)]) C dX10_found_89 (by decide) rfl ?_
              rw [lN_sub hu]
              refine j_lload C dX10_found_91 rfl ?_
              refine j_lstore (lv' := [(10, _), (8, _), (0, _), (1, _), (2, _), (3, _), (4, _), (6, _)]) C dX10_found_93 (by decide) rfl ?_
              refine j_lload C dX10_found_95 rfl ?_
              refine j_lstore (lv' := [(12, _), (10, _), (8, _), (0, _), (1, _), (2, _), (3, _), (4, _), (6, _)]) C dX10_found_97 (by decide) rfl ?_
              have L_99 : ∀ k : Nat, ∀ (P Q : Nat), Q < k → P ≤ 10000000000000000 → Q ≤ 10000000000000000 → 0 < P + Q → Nat.gcd P Q = Nat.gcd (100 ^ d - unS (lkS (tM B N ru) (gV x i) (x.1 4 0) (x.1 4 0) (x.1 4 1) (x.1 4 2)) d) (100 ^ d) → J KK (mW (kG KK) a) 0 0 z_36 [(0, .ref (a 0)), (3, .int w), (6, .long (lN (100 ^ d))), (8, .long (lN (100 ^ d - unS (lkS (tM B N ru) (gV x i) (x.1 4 0) (x.1 4 0) (x.1 4 1) (x.1 4 2)) d))), (10, .long (lN P)), (12, .long (lN Q))] 99 [] := by
                intro k
                induction k with
                | zero => intro P Q hk hP hQ hpq hG; omega
                | succ k ih =>
                  intro P Q hk hP hQ hpq hG
                  refine j_lload C dX10_found_99 rfl ?_
                  refine j_lconst (v := 0) C dX10_found_101 rfl ?_
                  refine j_lcmp C dX10_found_102 ?_
                  refine j_if_eq (tgt := 124) C dX10_found_103 (by decide) (fun c_103 => ?_) (fun c_103 => ?_)
                  · rw [lg_cmp_eq] at c_103
                    have hQ0 : Q = 0 := (lN_inj0 (by omega)).mp c_103
                    subst hQ0
                    rw [Nat.gcd_zero_right] at hG
                    have hP0 : 0 < P := by omega
                    refine j_iload_n C dX10_found_124 rfl rfl ?_
                    refine j_if_ne (tgt := 136) C dX10_found_125 (by decide) (fun c_125 => ?_) (fun c_125 => ?_)
                    · skip
                      refine j_lload C dX10_found_136 rfl ?_
                      refine j_lload C dX10_found_138 rfl ?_
                      refine j_ldiv C dX10_found_140 (fun h => absurd ((lN_inj0 (by omega)).mp h) (by omega)) ?_
                      refine hret _ _ _ _ dX10_found_141 ?_
                      refine ok_pos ⟨⟨(nI_0le hi (by omega)).1, by rw [hX.1.1]; exact (nI_0le hi (by omega)).2⟩, nI_0le (n := 9) hqn (by decide), hc_24⟩ ?_
                      rw [nI_clamp (show i < 2147483648 by omega), nI_clamp (show d < 2147483648 by omega)]
                      refine ⟨?_, hK_36⟩
                      rw [fdS, frS, ← hG, if_neg c_125]
                      exact pk_lDiv (by omega) (by omega) (by omega)
                    · skip
                      refine j_lload C dX10_found_128 rfl ?_
                      refine j_lload C dX10_found_130 rfl ?_
                      refine j_ldiv C dX10_found_132 (fun h => absurd ((lN_inj0 (by omega)).mp h) (by omega)) ?_
                      refine j_goto (tgt := 141) C dX10_found_133 (by decide) ?_
                      refine hret _ _ _ _ dX10_found_141 ?_
                      refine ok_pos ⟨⟨(nI_0le hi (by omega)).1, by rw [hX.1.1]; exact (nI_0le hi (by omega)).2⟩, nI_0le (n := 9) hqn (by decide), hc_24⟩ ?_
                      rw [nI_clamp (show i < 2147483648 by omega), nI_clamp (show d < 2147483648 by omega)]
                      refine ⟨?_, hK_36⟩
                      rw [fdS, frS, ← hG, if_pos c_125]
                      exact pk_lDiv (by omega) (by omega) (by omega)
                  · rw [lg_cmp_eq] at c_103
                    have hQ0 : 0 < Q := Nat.pos_of_ne_zero (fun h => c_103 ((lN_inj0 (by omega)).mpr h))
                    refine j_lload C dX10_found_106 rfl ?_
                    refine j_lload C dX10_found_108 rfl ?_
                    refine j_lrem C dX10_found_110 (fun h => absurd ((lN_inj0 (by omega)).mp h) (by omega)) ?_
                    refine j_lstore (lv' := [(14, _), (0, _), (3, _), (6, _), (8, _), (10, _), (12, _)]) C dX10_found_111 (by decide) rfl ?_
                    refine j_lload C dX10_found_113 rfl ?_
                    refine j_lstore (lv' := [(10, _), (14, _), (0, _), (3, _), (6, _), (8, _), (12, _)]) C dX10_found_115 (by decide) rfl ?_
                    refine j_lload C dX10_found_117 rfl ?_
                    refine j_lstore (lv' := [(12, _), (10, _), (14, _), (0, _), (3, _), (6, _), (8, _)]) C dX10_found_119 (by decide) rfl ?_
                    refine j_goto (tgt := 99) C dX10_found_121 (by decide) ?_
                    refine j_lv (lv' := [(0, _), (3, _), (6, _), (8, _), (10, _), (12, _)]) rfl ?_
                    rw [pk_lRem (by omega) hQ0 (by omega)]
                    have hlt9 : P % Q < Q := Nat.mod_lt _ hQ0
                    exact ih Q (P % Q) (by omega) (by omega) (by omega) (by omega) (by rw [← hG, Nat.gcd_comm P Q, Nat.gcd_rec Q P, Nat.gcd_comm])
              refine j_lv (lv' := [(0, _), (3, _), (6, _), (8, _), (10, _), (12, _)]) rfl ?_
              exact L_99 (100 ^ d + 1) (100 ^ d - unS (lkS (tM B N ru) (gV x i) (x.1 4 0) (x.1 4 0) (x.1 4 1) (x.1 4 2)) d) (100 ^ d) (by omega) (by omega) (by omega) (by omega) rfl
            · skip
              have hd : d < qn := by simp only [Int32.lt_iff_toInt_lt, Int32.le_iff_toInt_le, ← Int32.toInt_inj, Int32.reduceToInt, e_d, e_qn] at c_51; omega
              refine j_lload C dX10_found_54 rfl ?_
              refine j_bipush (v := 100) C dX10_found_56 rfl ?_
              refine j_aload_n C dX10_found_58 rfl rfl ?_
              refine j_get C dX10_found_59 jf_RX10_35 (wO mO) rfl ?_
              refine j_iload C dX10_found_62 rfl ?_
              refine j_iald C (d) dX10_found_64 (wA mA8) (rfl) (by omega) (by decide) ?_
              refine j_isub C dX10_found_65 ?_
              refine j_i2l C dX10_found_66 ?_
              refine j_lmul C dX10_found_67 ?_
              refine j_lstore (lv' := [(4, _), (0, _), (1, _), (2, _), (3, _), (6, _), (8, _)]) C dX10_found_68 (by decide) rfl ?_
              refine j_lload C dX10_found_70 rfl ?_
              refine j_ldc2 C dX10_found_72 jc_RX10_351 ?_
              refine j_lmul C dX10_found_75 ?_
              refine j_lstore (lv' := [(6, _), (4, _), (0, _), (1, _), (2, _), (3, _), (8, _)]) C dX10_found_76 (by decide) rfl ?_
              refine j_iinc (lv' := [(8, _), (6, _), (4, _), (0, _), (1, _), (2, _), (3, _)]) (v := nI (d + 1)) C dX10_found_78 rfl (j_inc1 d) (by decide) rfl ?_
              refine j_goto (tgt := 48) C dX10_found_81 (by decide) ?_
              refine j_lv (lv' := [(0, _), (1, _), (2, _), (3, _), (4, _), (6, _), (8, _)]) rfl ?_
              obtain ⟨j, hj, e⟩ := i32_nat (lkS_in (T := (tM B N ru)) (r := gV x i) (f := x.1 4 0) (a := x.1 4 0) (b := x.1 4 1) (s := x.1 4 2) (d := d))
              have e2 : lN (100 ^ d) * 100 = lN (100 ^ (d + 1)) := by rw [Nat.pow_succ]; exact lN_mul _ 100
              have e3 : lN (unS (lkS (tM B N ru) (gV x i) (x.1 4 0) (x.1 4 0) (x.1 4 1) (x.1 4 2)) d) * ((100 : Int32) - (lkS (tM B N ru) (gV x i) (x.1 4 0) (x.1 4 0) (x.1 4 1) (x.1 4 2)) d).toInt64 = lN (unS (lkS (tM B N ru) (gV x i) (x.1 4 0) (x.1 4 0) (x.1 4 1) (x.1 4 2)) (d + 1)) := by
                rw [unS, e, nI_clamp (by omega), sub100 hj, nI_l (by omega), lN_mul]
              rw [e2, hl_36 d (by omega), e3]
              exact ih (d + 1) (by omega) (by omega)
        refine j_lv (lv' := [(0, _), (1, _), (2, _), (3, _), (4, _), (6, _), (8, _)]) rfl ?_
        exact L_48 (qn + 1) 0 (by omega) (by omega)
      · skip
        have hc_24 : ¬ (0 ≤ w ∧ w < 2) := fun h => b_24 (by simp only [Int32.lt_iff_toInt_lt, Int32.le_iff_toInt_le, ← Int32.toInt_inj, Int32.reduceToInt, Int64.lt_iff_toInt_lt, Int64.le_iff_toInt_le, Int32.toInt_toInt64, Int64.reduceToInt] at h ⊢; omega)
        refine j_if_ne (tgt := 34) C dX10_found_27 (by decide) (fun c => absurd (by decide) c) (fun _ => ?_)
        refine j_ldc2 C dX10_found_30 jc_RX10_349 ?_
        refine hret _ _ _ _ dX10_found_33 ?_
        exact ⟨(if_neg (fun h => hc_24 h.2.2)).symm, mK_r⟩
    · skip
      have hc_14 : ¬ (0 ≤ q ∧ q < 9) := fun h => b_14 (by simp only [Int32.lt_iff_toInt_lt, Int32.le_iff_toInt_le, ← Int32.toInt_inj, Int32.reduceToInt, Int64.lt_iff_toInt_lt, Int64.le_iff_toInt_le, Int32.toInt_toInt64, Int64.reduceToInt] at h ⊢; omega)
      refine j_if_eq (tgt := 30) C dX10_found_17 (by decide) (fun _ => ?_) (fun c => absurd (by decide) c)
      refine j_ldc2 C dX10_found_30 jc_RX10_349 ?_
      refine hret _ _ _ _ dX10_found_33 ?_
      exact ⟨(if_neg (fun h => hc_14 h.2.1)).symm, mK_r⟩
  · skip
    refine j_if_eq (tgt := 30) C dX10_found_5 (by decide) (fun _ => ?_) (fun c => absurd (by decide) c)
    refine j_ldc2 C dX10_found_30 jc_RX10_349 ?_
    refine hret _ _ _ _ dX10_found_33 ?_
    exact ⟨(if_neg (fun h => b_2 h.1)).symm, mK_r⟩
set_option maxHeartbeats 4000000 in
set_option maxRecDepth 100000 in
theorem c_X10_partsBy (l : Launch) (g : jG) (a : Nat → Nat) (x : mS) (p : Int32) (q : Int32) (m t ru : Nat) (B : Nat → Nat → Int32) (N : Nat → Nat) (hX : inM x m t ru B N) (i qn : Nat) (hp : p = nI i) (hi : i < m) (hq : q = nI qn) (hqn : qn ≤ 30) : Cl l g yX10_partsBy cX10_partsBy 6 44 978 0 0 (mW g a) [.ref (a 0), .int p, .int q] x (fun r z => r = paS (lkS (tM B N ru) (gV x i) (x.1 4 0) (x.1 4 0) (x.1 4 1) (x.1 4 2)) qn ∧ mK x z) := by
  refine mk_l (by decide +kernel) rfl (fun KK hKl hKg C hin hret => ?_)
  subst hKl; subst hKg
  refine j_lv (lv' := [(0, _), (1, _), (2, _)]) rfl ?_
  subst hp; subst hq
  refine j_aload_n C dX10_partsBy_0 rfl rfl ?_
  refine j_iload_n C dX10_partsBy_1 rfl rfl ?_
  refine j_callvv C (c_X10_gathers _ _ _ _ _ m t ru B N hX i rfl hi) dX10_partsBy_2 jm_RX10_342 ⟨_, _, _, _, wO mO, rfl, rfl⟩ ⟨by decide, by decide, by decide, by decide⟩ rfl (Nat.le_of_ble_eq_true rfl) (fun z_2 hz_2 => ?_)
  obtain ⟨hK_2, hw_2, hl_2⟩ := hz_2
  refine j_ldc2 C dX10_partsBy_5 jc_RX10_353 ?_
  refine j_lstore_n (lv' := [(3, _), (0, _), (1, _), (2, _)]) C dX10_partsBy_8 rfl (by decide) rfl ?_
  refine j_iconst (v := 0) C dX10_partsBy_9 rfl ?_
  refine j_istore (lv' := [(5, _), (3, _), (0, _), (1, _), (2, _)]) C dX10_partsBy_10 (by decide) rfl ?_
  have L_12 : ∀ k : Nat, ∀ (d : Nat), d ≤ qn → qn < d + k → J KK (mW (kG KK) a) 0 0 z_2 [(0, .ref (a 0)), (1, .int (nI i)), (2, .int (nI qn)), (3, .long (leS 1000000000 (lkS (tM B N ru) (gV x i) (x.1 4 0) (x.1 4 0) (x.1 4 1) (x.1 4 2)) d)), (5, .int (nI d))] 12 [] := by
    intro k
    induction k with
    | zero => intro d h1 hk; omega
    | succ k ih =>
      intro d h1 hk
      have e_d : (nI d).toInt = d := nI_toInt (by omega); have e_qn : (nI qn).toInt = qn := nI_toInt (by omega)
      refine j_iload C dX10_partsBy_12 rfl ?_
      refine j_iload_n C dX10_partsBy_14 rfl rfl ?_
      refine j_icmp_ge (tgt := 42) C dX10_partsBy_15 (by decide) (fun c_15 => ?_) (fun c_15 => ?_)
      · skip
        have hd : d = qn := by simp only [Int32.lt_iff_toInt_lt, Int32.le_iff_toInt_le, ← Int32.toInt_inj, Int32.reduceToInt, e_d, e_qn] at c_15; omega
        subst hd
        refine j_ldc2 C dX10_partsBy_42 jc_RX10_353 ?_
        refine j_lload_n C dX10_partsBy_45 rfl rfl ?_
        refine j_lsub C dX10_partsBy_46 ?_
        refine hret _ _ _ _ dX10_partsBy_47 ?_
        exact ⟨rfl, hK_2⟩
      · skip
        have hd : d < qn := by simp only [Int32.lt_iff_toInt_lt, Int32.le_iff_toInt_le, ← Int32.toInt_inj, Int32.reduceToInt, e_d, e_qn] at c_15; omega
        refine j_lload_n C dX10_partsBy_18 rfl rfl ?_
        refine j_bipush (v := 100) C dX10_partsBy_19 rfl ?_
        refine j_aload_n C dX10_partsBy_21 rfl rfl ?_
        refine j_get C dX10_partsBy_22 jf_RX10_35 (wO mO) rfl ?_
        refine j_iload C dX10_partsBy_25 rfl ?_
        refine j_iald C (d) dX10_partsBy_27 (wA mA8) (rfl) (by omega) (by decide) ?_
        refine j_isub C dX10_partsBy_28 ?_
        refine j_i2l C dX10_partsBy_29 ?_
        refine j_lmul C dX10_partsBy_30 ?_
        refine j_ldc2 C dX10_partsBy_31 jc_RX10_351 ?_
        refine j_ldiv C dX10_partsBy_34 i64_100 ?_
        refine j_lstore_n (lv' := [(3, _), (0, _), (1, _), (2, _), (5, _)]) C dX10_partsBy_35 rfl (by decide) rfl ?_
        refine j_iinc (lv' := [(5, _), (3, _), (0, _), (1, _), (2, _)]) (v := nI (d + 1)) C dX10_partsBy_36 rfl (j_inc1 d) (by decide) rfl ?_
        refine j_goto (tgt := 12) C dX10_partsBy_39 (by decide) ?_
        refine j_lv (lv' := [(0, _), (1, _), (2, _), (3, _), (5, _)]) rfl ?_
        rw [hl_2 d (by omega)]
        exact ih (d + 1) (by omega) (by omega)
  refine j_lv (lv' := [(0, _), (1, _), (2, _), (3, _), (5, _)]) rfl ?_
  exact L_12 (qn + 1) 0 (by omega) (by omega)
set_option maxHeartbeats 4000000 in
set_option maxRecDepth 100000 in
theorem c_X10_parts (l : Launch) (g : jG) (a : Nat → Nat) (x : mS) (p : Int32) (q : Int32) (m t ru : Nat) (B : Nat → Nat → Int32) (N : Nat → Nat) (hX : inM x m t ru B N) : Cl l g yX10_parts cX10_parts 3 45 1003 0 0 (mW g a) [.ref (a 0), .int p, .int q] x (fun r z => r = (if (0 ≤ p ∧ p < x.1 0 10) ∧ (0 ≤ q ∧ q < 31) then paS (lkS (tM B N ru) (gV x p.toNatClampNeg) (x.1 4 0) (x.1 4 0) (x.1 4 1) (x.1 4 2)) q.toNatClampNeg else -4611686018427387904) ∧ mK x z) := by
  refine mk_l (by decide +kernel) rfl (fun KK hKl hKg C hin hret => ?_)
  subst hKl; subst hKg
  refine j_lv (lv' := [(0, _), (1, _), (2, _)]) rfl ?_
  have hm6 := hX.1.2
  refine j_aload_n C dX10_parts_0 rfl rfl ?_
  refine j_iload_n C dX10_parts_1 rfl rfl ?_
  refine j_calliv C (c_X10_isGlove _ _ _ _ _ m hX.1) dX10_parts_2 jm_RX10_79 ⟨_, _, _, _, wO mO, rfl, rfl⟩ ⟨by decide, by decide, by decide, by decide⟩ rfl (Nat.le_of_ble_eq_true rfl) (fun r z hz => ?_)
  obtain ⟨hb, hz⟩ := hz; have hz := hz.symm; subst hz
  rcases hb with ⟨rfl, b_2⟩ | ⟨rfl, b_2⟩
  · skip
    obtain ⟨i, hi, rfl⟩ := in_of (B := m) b_2 hX.1.1 (by omega)
    have hi6 : i < 6 := by omega
    refine j_if_eq (tgt := 29) C dX10_parts_5 (by decide) (fun c => absurd c (by decide)) (fun _ => ?_)
    refine j_iload_n C dX10_parts_8 rfl rfl ?_
    refine j_i2l C dX10_parts_9 ?_
    refine j_lconst (v := 0) C dX10_parts_10 rfl ?_
    refine j_ldc2 C dX10_parts_11 jc_RX10_355 ?_
    refine j_callis C (c_X10_in _ _ _ _ _ _ _ ) dX10_parts_14 jm_RX10_73 ⟨by decide, by decide, by decide, by decide⟩ rfl (Nat.le_of_ble_eq_true rfl) (fun r z hz => ?_)
    obtain ⟨hb, hz⟩ := hz; have hz := hz.symm; subst hz
    rcases hb with ⟨rfl, b_14⟩ | ⟨rfl, b_14⟩
    · skip
      have hc_14 : 0 ≤ q ∧ q < 31 := by simp only [Int32.lt_iff_toInt_lt, Int32.le_iff_toInt_le, ← Int32.toInt_inj, Int32.reduceToInt, Int64.lt_iff_toInt_lt, Int64.le_iff_toInt_le, Int32.toInt_toInt64, Int64.reduceToInt] at b_14 ⊢; omega
      obtain ⟨qn, hqn, rfl⟩ := in_of (B := 31) hc_14 rfl
      refine j_if_eq (tgt := 29) C dX10_parts_17 (by decide) (fun c => absurd c (by decide)) (fun _ => ?_)
      refine j_aload_n C dX10_parts_20 rfl rfl ?_
      refine j_iload_n C dX10_parts_21 rfl rfl ?_
      refine j_iload_n C dX10_parts_22 rfl rfl ?_
      refine j_calllv C (c_X10_partsBy _ _ _ _ _ _ m t ru B N hX i qn rfl hi rfl (by omega)) dX10_parts_23 jm_RX10_357 ⟨_, _, _, _, wO mO, rfl, rfl⟩ ⟨by decide, by decide, by decide, by decide⟩ rfl (Nat.le_of_ble_eq_true rfl) (fun r_23 z_23 hz_23 => ?_)
      skip
      refine j_goto (tgt := 32) C dX10_parts_26 (by decide) ?_
      refine hret _ _ _ _ dX10_parts_32 ?_
      refine ok_pos ⟨⟨(nI_0le hi (by omega)).1, by rw [hX.1.1]; exact (nI_0le hi (by omega)).2⟩, nI_0le (n := 31) hqn (by decide)⟩ ?_
      rw [nI_clamp (show i < 2147483648 by omega), nI_clamp (show qn < 2147483648 by omega)]
      exact hz_23
    · skip
      have hc_14 : ¬ (0 ≤ q ∧ q < 31) := fun h => b_14 (by simp only [Int32.lt_iff_toInt_lt, Int32.le_iff_toInt_le, ← Int32.toInt_inj, Int32.reduceToInt, Int64.lt_iff_toInt_lt, Int64.le_iff_toInt_le, Int32.toInt_toInt64, Int64.reduceToInt] at h ⊢; omega)
      refine j_if_eq (tgt := 29) C dX10_parts_17 (by decide) (fun _ => ?_) (fun c => absurd (by decide) c)
      refine j_ldc2 C dX10_parts_29 jc_RX10_349 ?_
      refine hret _ _ _ _ dX10_parts_32 ?_
      exact ⟨(if_neg (fun h => hc_14 h.2)).symm, mK_r⟩
  · skip
    refine j_if_eq (tgt := 29) C dX10_parts_5 (by decide) (fun _ => ?_) (fun c => absurd (by decide) c)
    refine j_ldc2 C dX10_parts_29 jc_RX10_349 ?_
    refine hret _ _ _ _ dX10_parts_32 ?_
    exact ⟨(if_neg (fun h => b_2 h.1)).symm, mK_r⟩
set_option maxHeartbeats 4000000 in
set_option maxRecDepth 100000 in
theorem c_X10_waiting (l : Launch) (g : jG) (a : Nat → Nat) (x : mS) (p : Int32) (q : Int32) (m t ru : Nat) (B : Nat → Nat → Int32) (N : Nat → Nat) (hX : inM x m t ru B N) : Cl l g yX10_waiting cX10_waiting 8 44 978 0 0 (mW g a) [.ref (a 0), .int p, .int q] x (fun r z => r = (if (0 ≤ p ∧ p < x.1 0 10) ∧ (0 ≤ q ∧ q < 31) then wtS (lkS (tM B N ru) (gV x p.toNatClampNeg) (x.1 4 0) (x.1 4 0) (x.1 4 1) (x.1 4 2)) (miS (tM B N ru) (gV x p.toNatClampNeg) (x.1 4 0)) q.toNatClampNeg else -4611686018427387904) ∧ mK x z) := by
  refine mk_l (by decide +kernel) rfl (fun KK hKl hKg C hin hret => ?_)
  subst hKl; subst hKg
  refine j_lv (lv' := [(0, _), (1, _), (2, _)]) rfl ?_
  have hm6 := hX.1.2
  refine j_aload_n C dX10_waiting_0 rfl rfl ?_
  refine j_iload_n C dX10_waiting_1 rfl rfl ?_
  refine j_calliv C (c_X10_isGlove _ _ _ _ _ m hX.1) dX10_waiting_2 jm_RX10_79 ⟨_, _, _, _, wO mO, rfl, rfl⟩ ⟨by decide, by decide, by decide, by decide⟩ rfl (Nat.le_of_ble_eq_true rfl) (fun r z hz => ?_)
  obtain ⟨hb, hz⟩ := hz; have hz := hz.symm; subst hz
  rcases hb with ⟨rfl, b_2⟩ | ⟨rfl, b_2⟩
  · skip
    obtain ⟨i, hi, rfl⟩ := in_of (B := m) b_2 hX.1.1 (by omega)
    have hi6 : i < 6 := by omega
    refine j_if_eq (tgt := 20) C dX10_waiting_5 (by decide) (fun c => absurd c (by decide)) (fun _ => ?_)
    refine j_iload_n C dX10_waiting_8 rfl rfl ?_
    refine j_i2l C dX10_waiting_9 ?_
    refine j_lconst (v := 0) C dX10_waiting_10 rfl ?_
    refine j_ldc2 C dX10_waiting_11 jc_RX10_355 ?_
    refine j_callis C (c_X10_in _ _ _ _ _ _ _ ) dX10_waiting_14 jm_RX10_73 ⟨by decide, by decide, by decide, by decide⟩ rfl (Nat.le_of_ble_eq_true rfl) (fun r z hz => ?_)
    obtain ⟨hb, hz⟩ := hz; have hz := hz.symm; subst hz
    rcases hb with ⟨rfl, b_14⟩ | ⟨rfl, b_14⟩
    · skip
      have hc_14 : 0 ≤ q ∧ q < 31 := by simp only [Int32.lt_iff_toInt_lt, Int32.le_iff_toInt_le, ← Int32.toInt_inj, Int32.reduceToInt, Int64.lt_iff_toInt_lt, Int64.le_iff_toInt_le, Int32.toInt_toInt64, Int64.reduceToInt] at b_14 ⊢; omega
      obtain ⟨qn, hqn, rfl⟩ := in_of (B := 31) hc_14 rfl
      refine j_if_ne (tgt := 24) C dX10_waiting_17 (by decide) (fun _ => ?_) (fun c => absurd c (by decide))
      refine j_aload_n C dX10_waiting_24 rfl rfl ?_
      refine j_iload_n C dX10_waiting_25 rfl rfl ?_
      refine j_callvv C (c_X10_gathers _ _ _ _ _ m t ru B N hX i rfl hi) dX10_waiting_26 jm_RX10_342 ⟨_, _, _, _, wO mO, rfl, rfl⟩ ⟨by decide, by decide, by decide, by decide⟩ rfl (Nat.le_of_ble_eq_true rfl) (fun z_26 hz_26 => ?_)
      obtain ⟨hK_26, hw_26, hl_26⟩ := hz_26
      refine j_ldc2 C dX10_waiting_29 jc_RX10_361 ?_
      refine j_lstore_n (lv' := [(3, _), (0, _), (1, _), (2, _)]) C dX10_waiting_32 rfl (by decide) rfl ?_
      refine j_lconst (v := 0) C dX10_waiting_33 rfl ?_
      refine j_lstore (lv' := [(5, _), (3, _), (0, _), (1, _), (2, _)]) C dX10_waiting_34 (by decide) rfl ?_
      refine j_iconst (v := 0) C dX10_waiting_36 rfl ?_
      refine j_istore (lv' := [(7, _), (5, _), (3, _), (0, _), (1, _), (2, _)]) C dX10_waiting_37 (by decide) rfl ?_
      have L_39 : ∀ k : Nat, ∀ (d : Nat) (x' : mS), d ≤ qn → qn < d + k → mH z_26 x' → J KK (mW (kG KK) a) 0 0 x' [(0, .ref (a 0)), (1, .int (nI i)), (2, .int (nI qn)), (3, .long (leS 1000000 (lkS (tM B N ru) (gV x i) (x.1 4 0) (x.1 4 0) (x.1 4 1) (x.1 4 2)) d)), (5, .long (wtS (lkS (tM B N ru) (gV x i) (x.1 4 0) (x.1 4 0) (x.1 4 1) (x.1 4 2)) (miS (tM B N ru) (gV x i) (x.1 4 0)) d)), (7, .int (nI d))] 39 [] := by
        intro k
        induction k with
        | zero => intro d x' h1 hk hH; omega
        | succ k ih =>
          intro d x' h1 hk hH
          have e_d : (nI d).toInt = d := nI_toInt (by omega); have e_qn : (nI qn).toInt = qn := nI_toInt (by omega)
          have hK9 : mK x x' := mK_t hK_26 (mK_h hH)
          refine j_iload C dX10_waiting_39 rfl ?_
          refine j_iload_n C dX10_waiting_41 rfl rfl ?_
          refine j_icmp_ge (tgt := 84) C dX10_waiting_42 (by decide) (fun c_42 => ?_) (fun c_42 => ?_)
          · skip
            have hd : d = qn := by simp only [Int32.lt_iff_toInt_lt, Int32.le_iff_toInt_le, ← Int32.toInt_inj, Int32.reduceToInt, e_d, e_qn] at c_42; omega
            subst hd
            refine j_lload C dX10_waiting_84 rfl ?_
            refine hret _ _ _ _ dX10_waiting_86 ?_
            refine ok_pos ⟨⟨(nI_0le hi (by omega)).1, by rw [hX.1.1]; exact (nI_0le hi (by omega)).2⟩, nI_0le (n := 31) hqn (by decide)⟩ ?_
            rw [nI_clamp (show i < 2147483648 by omega), nI_clamp (show d < 2147483648 by omega)]
            exact ⟨rfl, hK9⟩
          · skip
            have hd : d < qn := by simp only [Int32.lt_iff_toInt_lt, Int32.le_iff_toInt_le, ← Int32.toInt_inj, Int32.reduceToInt, e_d, e_qn] at c_42; omega
            refine j_lload C dX10_waiting_45 rfl ?_
            refine j_aload_n C dX10_waiting_47 rfl rfl ?_
            refine j_iload_n C dX10_waiting_48 rfl rfl ?_
            refine j_iload C dX10_waiting_49 rfl ?_
            refine j_calliv C (c_X10_mindsOn _ _ _ _ _ _ m t ru B N (mK_in hX hK9) i d rfl hi rfl (by omega) (fun h => by rw [mH_k hH 7 (by decide), hw_26 d (by omega)] at h ⊢; exact wh_in (hX.2.2.2.2.2 i hi) h)) dX10_waiting_51 jm_RX10_346 ⟨_, _, _, _, wO mO, rfl, rfl⟩ ⟨by decide, by decide, by decide, by decide⟩ rfl (Nat.le_of_ble_eq_true rfl) (fun r_51 z_51 hz_51 => ?_)
            obtain ⟨hH_51, hr_51⟩ := hz_51
            rw [mK_gV hK9, mK_4 hK9, mi_as (show x'.1 7 d = whS (tM B N ru) (gV x i) (x.1 4 0) d by rw [mH_k hH 7 (by decide)]; exact hw_26 d (by omega))] at hr_51
            have hr_51 := hr_51.symm; subst hr_51
            refine j_i2l C dX10_waiting_54 ?_
            refine j_lload_n C dX10_waiting_55 rfl rfl ?_
            refine j_lmul C dX10_waiting_56 ?_
            refine j_ladd C dX10_waiting_57 ?_
            refine j_lstore (lv' := [(5, _), (0, _), (1, _), (2, _), (3, _), (7, _)]) C dX10_waiting_58 (by decide) rfl ?_
            refine j_lload_n C dX10_waiting_60 rfl rfl ?_
            refine j_bipush (v := 100) C dX10_waiting_61 rfl ?_
            refine j_aload_n C dX10_waiting_63 rfl rfl ?_
            refine j_get C dX10_waiting_64 jf_RX10_35 (wO mO) rfl ?_
            refine j_iload C dX10_waiting_67 rfl ?_
            refine j_iald C (d) dX10_waiting_69 (wA mA8) (rfl) (by omega) (by decide) ?_
            refine j_isub C dX10_waiting_70 ?_
            refine j_i2l C dX10_waiting_71 ?_
            refine j_lmul C dX10_waiting_72 ?_
            refine j_ldc2 C dX10_waiting_73 jc_RX10_351 ?_
            refine j_ldiv C dX10_waiting_76 i64_100 ?_
            refine j_lstore_n (lv' := [(3, _), (5, _), (0, _), (1, _), (2, _), (7, _)]) C dX10_waiting_77 rfl (by decide) rfl ?_
            refine j_iinc (lv' := [(7, _), (3, _), (5, _), (0, _), (1, _), (2, _)]) (v := nI (d + 1)) C dX10_waiting_78 rfl (j_inc1 d) (by decide) rfl ?_
            refine j_goto (tgt := 39) C dX10_waiting_81 (by decide) ?_
            refine j_lv (lv' := [(0, _), (1, _), (2, _), (3, _), (5, _), (7, _)]) rfl ?_
            have e2 : z_51.1 8 d = (lkS (tM B N ru) (gV x i) (x.1 4 0) (x.1 4 0) (x.1 4 1) (x.1 4 2)) d := by rw [mH_k hH_51 8 (by decide), mH_k hH 8 (by decide), hl_26 d (by omega)]
            rw [e2, Int64.mul_comm (Int32.toInt64 ((miS (tM B N ru) (gV x i) (x.1 4 0)) d))]
            exact ih (d + 1) z_51 (by omega) (by omega) (mH_t hH hH_51)
      refine j_lv (lv' := [(0, _), (1, _), (2, _), (3, _), (5, _), (7, _)]) rfl ?_
      exact L_39 (qn + 1) 0 _ (by omega) (by omega) mH_r
    · skip
      have hc_14 : ¬ (0 ≤ q ∧ q < 31) := fun h => b_14 (by simp only [Int32.lt_iff_toInt_lt, Int32.le_iff_toInt_le, ← Int32.toInt_inj, Int32.reduceToInt, Int64.lt_iff_toInt_lt, Int64.le_iff_toInt_le, Int32.toInt_toInt64, Int64.reduceToInt] at h ⊢; omega)
      refine j_if_ne (tgt := 24) C dX10_waiting_17 (by decide) (fun c => absurd (by decide) c) (fun _ => ?_)
      refine j_ldc2 C dX10_waiting_20 jc_RX10_349 ?_
      refine hret _ _ _ _ dX10_waiting_23 ?_
      exact ⟨(if_neg (fun h => hc_14 h.2)).symm, mK_r⟩
  · skip
    refine j_if_eq (tgt := 20) C dX10_waiting_5 (by decide) (fun _ => ?_) (fun c => absurd (by decide) c)
    refine j_ldc2 C dX10_waiting_20 jc_RX10_349 ?_
    refine hret _ _ _ _ dX10_waiting_23 ?_
    exact ⟨(if_neg (fun h => b_2 h.1)).symm, mK_r⟩
set_option maxHeartbeats 4000000 in
set_option maxRecDepth 100000 in
theorem c_X10_best (l : Launch) (g : jG) (a : Nat → Nat) (x : mS) (p : Int32) (w : Int32) (m t ru : Nat) (B : Nat → Nat → Int32) (N : Nat → Nat) (hX : inM x m t ru B N) : Ci l g yX10_best cX10_best 5 .int 44 978 0 0 (mW g a) [.ref (a 0), .int p, .int w] x (fun r z => r = (if (0 ≤ p ∧ p < x.1 0 10) ∧ (0 ≤ w ∧ w < 2) then (if w = 0 then nI (baS (lkS (tM B N ru) (gV x p.toNatClampNeg) (x.1 4 0) (x.1 4 0) (x.1 4 1) (x.1 4 2)) 30) else (lkS (tM B N ru) (gV x p.toNatClampNeg) (x.1 4 0) (x.1 4 0) (x.1 4 1) (x.1 4 2)) (baS (lkS (tM B N ru) (gV x p.toNatClampNeg) (x.1 4 0) (x.1 4 0) (x.1 4 1) (x.1 4 2)) 30)) else -2) ∧ mK x z) := by
  refine mk_i (by decide +kernel) rfl (fun KK hKl hKg C hin hret => ?_)
  subst hKl; subst hKg
  refine j_lv (lv' := [(0, _), (1, _), (2, _)]) rfl ?_
  have hm6 := hX.1.2
  refine j_aload_n C dX10_best_0 rfl rfl ?_
  refine j_iload_n C dX10_best_1 rfl rfl ?_
  refine j_calliv C (c_X10_isGlove _ _ _ _ _ m hX.1) dX10_best_2 jm_RX10_79 ⟨_, _, _, _, wO mO, rfl, rfl⟩ ⟨by decide, by decide, by decide, by decide⟩ rfl (Nat.le_of_ble_eq_true rfl) (fun r z hz => ?_)
  obtain ⟨hb, hz⟩ := hz; have hz := hz.symm; subst hz
  rcases hb with ⟨rfl, b_2⟩ | ⟨rfl, b_2⟩
  · skip
    obtain ⟨i, hi, rfl⟩ := in_of (B := m) b_2 hX.1.1 (by omega)
    have hi6 : i < 6 := by omega
    refine j_if_eq (tgt := 18) C dX10_best_5 (by decide) (fun c => absurd c (by decide)) (fun _ => ?_)
    refine j_iload_n C dX10_best_8 rfl rfl ?_
    refine j_i2l C dX10_best_9 ?_
    refine j_lconst (v := 0) C dX10_best_10 rfl ?_
    refine j_lconst (v := 1) C dX10_best_11 rfl ?_
    refine j_callis C (c_X10_in _ _ _ _ _ _ _ ) dX10_best_12 jm_RX10_73 ⟨by decide, by decide, by decide, by decide⟩ rfl (Nat.le_of_ble_eq_true rfl) (fun r z hz => ?_)
    obtain ⟨hb, hz⟩ := hz; have hz := hz.symm; subst hz
    rcases hb with ⟨rfl, b_12⟩ | ⟨rfl, b_12⟩
    · skip
      have hc_12 : 0 ≤ w ∧ w < 2 := by simp only [Int32.lt_iff_toInt_lt, Int32.le_iff_toInt_le, ← Int32.toInt_inj, Int32.reduceToInt, Int64.lt_iff_toInt_lt, Int64.le_iff_toInt_le, Int32.toInt_toInt64, Int64.reduceToInt] at b_12 ⊢; omega
      refine j_if_ne (tgt := 21) C dX10_best_15 (by decide) (fun _ => ?_) (fun c => absurd c (by decide))
      refine j_aload_n C dX10_best_21 rfl rfl ?_
      refine j_iload_n C dX10_best_22 rfl rfl ?_
      refine j_callvv C (c_X10_gathers _ _ _ _ _ m t ru B N hX i rfl hi) dX10_best_23 jm_RX10_342 ⟨_, _, _, _, wO mO, rfl, rfl⟩ ⟨by decide, by decide, by decide, by decide⟩ rfl (Nat.le_of_ble_eq_true rfl) (fun z_23 hz_23 => ?_)
      obtain ⟨hK_23, hw_23, hl_23⟩ := hz_23
      refine j_iconst (v := 0) C dX10_best_26 rfl ?_
      refine j_istore_n (lv' := [(3, _), (0, _), (1, _), (2, _)]) C dX10_best_27 rfl (by decide) rfl ?_
      refine j_iconst (v := 1) C dX10_best_28 rfl ?_
      refine j_istore (lv' := [(4, _), (3, _), (0, _), (1, _), (2, _)]) C dX10_best_29 (by decide) rfl ?_
      have L_31 : ∀ k : Nat, ∀ (d : Nat), 1 ≤ d → d ≤ 30 → 30 < d + k → (baS (lkS (tM B N ru) (gV x i) (x.1 4 0) (x.1 4 0) (x.1 4 1) (x.1 4 2)) d < 30) → J KK (mW (kG KK) a) 0 0 z_23 [(0, .ref (a 0)), (1, .int (nI i)), (2, .int w), (3, .int (nI (baS (lkS (tM B N ru) (gV x i) (x.1 4 0) (x.1 4 0) (x.1 4 1) (x.1 4 2)) d))), (4, .int (nI d))] 31 [] := by
        intro k
        induction k with
        | zero => intro d h0 h1 hk hba; omega
        | succ k ih =>
          intro d h0 h1 hk hba
          have e_d : (nI d).toInt = d := nI_toInt (by omega)
          refine j_iload C dX10_best_31 rfl ?_
          refine j_bipush (v := 30) C dX10_best_33 rfl ?_
          refine j_icmp_ge (tgt := 67) C dX10_best_35 (by decide) (fun c_35 => ?_) (fun c_35 => ?_)
          · skip
            have hd : d = 30 := by simp only [Int32.lt_iff_toInt_lt, Int32.le_iff_toInt_le, ← Int32.toInt_inj, Int32.reduceToInt, e_d] at c_35; omega
            subst hd
            refine j_iload_n C dX10_best_67 rfl rfl ?_
            refine j_if_ne (tgt := 75) C dX10_best_68 (by decide) (fun c_68 => ?_) (fun c_68 => ?_)
            · skip
              refine j_aload_n C dX10_best_75 rfl rfl ?_
              refine j_get C dX10_best_76 jf_RX10_35 (wO mO) rfl ?_
              refine j_iload_n C dX10_best_79 rfl rfl ?_
              refine j_iald C (baS (lkS (tM B N ru) (gV x i) (x.1 4 0) (x.1 4 0) (x.1 4 1) (x.1 4 2)) 30) dX10_best_80 (wA mA8) (rfl) (hba) (by decide) ?_
              refine hret _ _ _ _ dX10_best_81 rfl ?_
              refine ok_pos ⟨⟨(nI_0le hi (by omega)).1, by rw [hX.1.1]; exact (nI_0le hi (by omega)).2⟩, hc_12⟩ ?_
              rw [nI_clamp (show i < 2147483648 by omega)]
              exact ⟨by rw [if_neg c_68]; exact hl_23 _ hba, hK_23⟩
            · skip
              refine j_iload_n C dX10_best_71 rfl rfl ?_
              refine j_goto (tgt := 81) C dX10_best_72 (by decide) ?_
              refine hret _ _ _ _ dX10_best_81 rfl ?_
              refine ok_pos ⟨⟨(nI_0le hi (by omega)).1, by rw [hX.1.1]; exact (nI_0le hi (by omega)).2⟩, hc_12⟩ ?_
              rw [nI_clamp (show i < 2147483648 by omega)]
              exact ⟨(if_pos c_68).symm, hK_23⟩
          · skip
            have hd : d < 30 := by simp only [Int32.lt_iff_toInt_lt, Int32.le_iff_toInt_le, ← Int32.toInt_inj, Int32.reduceToInt, e_d] at c_35; omega
            refine j_aload_n C dX10_best_38 rfl rfl ?_
            refine j_get C dX10_best_39 jf_RX10_35 (wO mO) rfl ?_
            refine j_iload C dX10_best_42 rfl ?_
            refine j_iald C (d) dX10_best_44 (wA mA8) (rfl) (hd) (by decide) ?_
            refine j_aload_n C dX10_best_45 rfl rfl ?_
            refine j_get C dX10_best_46 jf_RX10_35 (wO mO) rfl ?_
            refine j_iload_n C dX10_best_49 rfl rfl ?_
            refine j_iald C (baS (lkS (tM B N ru) (gV x i) (x.1 4 0) (x.1 4 0) (x.1 4 1) (x.1 4 2)) d) dX10_best_50 (wA mA8) (rfl) (hba) (by decide) ?_
            refine j_icmp_le (tgt := 59) C dX10_best_51 (by decide) (fun c_51 => ?_) (fun c_51 => ?_)
            · skip
              have hcc : ¬ (lkS (tM B N ru) (gV x i) (x.1 4 0) (x.1 4 0) (x.1 4 1) (x.1 4 2)) (baS (lkS (tM B N ru) (gV x i) (x.1 4 0) (x.1 4 0) (x.1 4 1) (x.1 4 2)) d) < (lkS (tM B N ru) (gV x i) (x.1 4 0) (x.1 4 0) (x.1 4 1) (x.1 4 2)) d := by rw [hl_23 d hd, hl_23 _ hba] at c_51; simp only [Int32.lt_iff_toInt_lt, Int32.le_iff_toInt_le, ← Int32.toInt_inj, Int32.reduceToInt] at c_51 ⊢; omega
              refine j_iload_n C dX10_best_59 rfl rfl ?_
              refine j_istore_n (lv' := [(3, _), (0, _), (1, _), (2, _), (4, _)]) C dX10_best_60 rfl (by decide) rfl ?_
              refine j_iinc (lv' := [(4, _), (3, _), (0, _), (1, _), (2, _)]) (v := nI (d + 1)) C dX10_best_61 rfl (j_inc1 d) (by decide) rfl ?_
              refine j_goto (tgt := 31) C dX10_best_64 (by decide) ?_
              refine j_lv (lv' := [(0, _), (1, _), (2, _), (3, _), (4, _)]) rfl ?_
              have e : baS (lkS (tM B N ru) (gV x i) (x.1 4 0) (x.1 4 0) (x.1 4 1) (x.1 4 2)) (d + 1) = baS (lkS (tM B N ru) (gV x i) (x.1 4 0) (x.1 4 0) (x.1 4 1) (x.1 4 2)) d := by rw [baS, if_neg hcc]
              have h9 := ih (d + 1) (by omega) (by omega) (by omega) (by rw [e]; exact hba)
              rw [e] at h9; exact h9
            · skip
              have hcc : (lkS (tM B N ru) (gV x i) (x.1 4 0) (x.1 4 0) (x.1 4 1) (x.1 4 2)) (baS (lkS (tM B N ru) (gV x i) (x.1 4 0) (x.1 4 0) (x.1 4 1) (x.1 4 2)) d) < (lkS (tM B N ru) (gV x i) (x.1 4 0) (x.1 4 0) (x.1 4 1) (x.1 4 2)) d := by rw [hl_23 d hd, hl_23 _ hba] at c_51; simp only [Int32.lt_iff_toInt_lt, Int32.le_iff_toInt_le, ← Int32.toInt_inj, Int32.reduceToInt] at c_51 ⊢; omega
              refine j_iload C dX10_best_54 rfl ?_
              refine j_goto (tgt := 60) C dX10_best_56 (by decide) ?_
              refine j_istore_n (lv' := [(3, _), (0, _), (1, _), (2, _), (4, _)]) C dX10_best_60 rfl (by decide) rfl ?_
              refine j_iinc (lv' := [(4, _), (3, _), (0, _), (1, _), (2, _)]) (v := nI (d + 1)) C dX10_best_61 rfl (j_inc1 d) (by decide) rfl ?_
              refine j_goto (tgt := 31) C dX10_best_64 (by decide) ?_
              refine j_lv (lv' := [(0, _), (1, _), (2, _), (3, _), (4, _)]) rfl ?_
              have e : baS (lkS (tM B N ru) (gV x i) (x.1 4 0) (x.1 4 0) (x.1 4 1) (x.1 4 2)) (d + 1) = d := by rw [baS, if_pos hcc]
              have h9 := ih (d + 1) (by omega) (by omega) (by omega) (by rw [e]; exact hd)
              rw [e] at h9; exact h9
      refine j_lv (lv' := [(0, _), (1, _), (2, _), (3, _), (4, _)]) rfl ?_
      have e1 : baS (lkS (tM B N ru) (gV x i) (x.1 4 0) (x.1 4 0) (x.1 4 1) (x.1 4 2)) 1 = 0 := by simp [baS]
      have h9 := L_31 30 1 (by omega) (by omega) (by omega) (by rw [e1]; decide)
      rw [e1] at h9; exact h9
    · skip
      have hc_12 : ¬ (0 ≤ w ∧ w < 2) := fun h => b_12 (by simp only [Int32.lt_iff_toInt_lt, Int32.le_iff_toInt_le, ← Int32.toInt_inj, Int32.reduceToInt, Int64.lt_iff_toInt_lt, Int64.le_iff_toInt_le, Int32.toInt_toInt64, Int64.reduceToInt] at h ⊢; omega)
      refine j_if_ne (tgt := 21) C dX10_best_15 (by decide) (fun c => absurd (by decide) c) (fun _ => ?_)
      refine j_bipush (v := -2) C dX10_best_18 rfl ?_
      refine hret _ _ _ _ dX10_best_20 rfl ?_
      exact ⟨(if_neg (fun h => hc_12 h.2)).symm, mK_r⟩
  · skip
    refine j_if_eq (tgt := 18) C dX10_best_5 (by decide) (fun _ => ?_) (fun c => absurd (by decide) c)
    refine j_bipush (v := -2) C dX10_best_18 rfl ?_
    refine hret _ _ _ _ dX10_best_20 rfl ?_
    exact ⟨(if_neg (fun h => b_2 h.1)).symm, mK_r⟩
set_option maxHeartbeats 4000000 in
set_option maxRecDepth 100000 in
theorem c_X10_giveUp (l : Launch) (g : jG) (a : Nat → Nat) (x : mS) (p : Int32) (q : Int32) (m t ru : Nat) (B : Nat → Nat → Int32) (N : Nat → Nat) (hX : inM x m t ru B N) : Ci l g yX10_giveUp cX10_giveUp 5 .int 44 978 0 0 (mW g a) [.ref (a 0), .int p, .int q] x (fun r z => r = (if (0 ≤ p ∧ p < x.1 0 10) ∧ (1 ≤ q ∧ q ≤ 100) then nI (giS (lkS (tM B N ru) (gV x p.toNatClampNeg) (x.1 4 0) (x.1 4 0) (x.1 4 1) (x.1 4 2)) q 30) else -2) ∧ mK x z) := by
  refine mk_i (by decide +kernel) rfl (fun KK hKl hKg C hin hret => ?_)
  subst hKl; subst hKg
  refine j_lv (lv' := [(0, _), (1, _), (2, _)]) rfl ?_
  have hm6 := hX.1.2
  refine j_aload_n C dX10_giveUp_0 rfl rfl ?_
  refine j_iload_n C dX10_giveUp_1 rfl rfl ?_
  refine j_calliv C (c_X10_isGlove _ _ _ _ _ m hX.1) dX10_giveUp_2 jm_RX10_79 ⟨_, _, _, _, wO mO, rfl, rfl⟩ ⟨by decide, by decide, by decide, by decide⟩ rfl (Nat.le_of_ble_eq_true rfl) (fun r z hz => ?_)
  obtain ⟨hb, hz⟩ := hz; have hz := hz.symm; subst hz
  rcases hb with ⟨rfl, b_2⟩ | ⟨rfl, b_2⟩
  · skip
    obtain ⟨i, hi, rfl⟩ := in_of (B := m) b_2 hX.1.1 (by omega)
    have hi6 : i < 6 := by omega
    refine j_if_eq (tgt := 20) C dX10_giveUp_5 (by decide) (fun c => absurd c (by decide)) (fun _ => ?_)
    refine j_iload_n C dX10_giveUp_8 rfl rfl ?_
    refine j_i2l C dX10_giveUp_9 ?_
    refine j_lconst (v := 1) C dX10_giveUp_10 rfl ?_
    refine j_ldc2 C dX10_giveUp_11 jc_RX10_351 ?_
    refine j_callis C (c_X10_in _ _ _ _ _ _ _ ) dX10_giveUp_14 jm_RX10_73 ⟨by decide, by decide, by decide, by decide⟩ rfl (Nat.le_of_ble_eq_true rfl) (fun r z hz => ?_)
    obtain ⟨hb, hz⟩ := hz; have hz := hz.symm; subst hz
    rcases hb with ⟨rfl, b_14⟩ | ⟨rfl, b_14⟩
    · skip
      have hc_14 : 1 ≤ q ∧ q ≤ 100 := by simp only [Int32.lt_iff_toInt_lt, Int32.le_iff_toInt_le, ← Int32.toInt_inj, Int32.reduceToInt, Int64.lt_iff_toInt_lt, Int64.le_iff_toInt_le, Int32.toInt_toInt64, Int64.reduceToInt] at b_14 ⊢; omega
      refine j_if_ne (tgt := 23) C dX10_giveUp_17 (by decide) (fun _ => ?_) (fun c => absurd c (by decide))
      refine j_aload_n C dX10_giveUp_23 rfl rfl ?_
      refine j_iload_n C dX10_giveUp_24 rfl rfl ?_
      refine j_callvv C (c_X10_gathers _ _ _ _ _ m t ru B N hX i rfl hi) dX10_giveUp_25 jm_RX10_342 ⟨_, _, _, _, wO mO, rfl, rfl⟩ ⟨by decide, by decide, by decide, by decide⟩ rfl (Nat.le_of_ble_eq_true rfl) (fun z_25 hz_25 => ?_)
      obtain ⟨hK_25, hw_25, hl_25⟩ := hz_25
      refine j_iconst (v := 0) C dX10_giveUp_28 rfl ?_
      refine j_istore_n (lv' := [(3, _), (0, _), (1, _), (2, _)]) C dX10_giveUp_29 rfl (by decide) rfl ?_
      refine j_iconst (v := 0) C dX10_giveUp_30 rfl ?_
      refine j_istore (lv' := [(4, _), (3, _), (0, _), (1, _), (2, _)]) C dX10_giveUp_31 (by decide) rfl ?_
      have L_33 : ∀ k : Nat, ∀ (d : Nat), d ≤ 30 → 30 < d + k → J KK (mW (kG KK) a) 0 0 z_25 [(0, .ref (a 0)), (1, .int (nI i)), (2, .int q), (3, .int (nI (giS (lkS (tM B N ru) (gV x i) (x.1 4 0) (x.1 4 0) (x.1 4 1) (x.1 4 2)) q d))), (4, .int (nI d))] 33 [] := by
        intro k
        induction k with
        | zero => intro d h1 hk; omega
        | succ k ih =>
          intro d h1 hk
          have e_d : (nI d).toInt = d := nI_toInt (by omega)
          refine j_iload C dX10_giveUp_33 rfl ?_
          refine j_bipush (v := 30) C dX10_giveUp_35 rfl ?_
          refine j_icmp_ge (tgt := 66) C dX10_giveUp_37 (by decide) (fun c_37 => ?_) (fun c_37 => ?_)
          · skip
            have hd : d = 30 := by simp only [Int32.lt_iff_toInt_lt, Int32.le_iff_toInt_le, ← Int32.toInt_inj, Int32.reduceToInt, e_d] at c_37; omega
            subst hd
            refine j_iload_n C dX10_giveUp_66 rfl rfl ?_
            refine hret _ _ _ _ dX10_giveUp_67 rfl ?_
            refine ok_pos ⟨⟨(nI_0le hi (by omega)).1, by rw [hX.1.1]; exact (nI_0le hi (by omega)).2⟩, hc_14⟩ ?_
            rw [nI_clamp (show i < 2147483648 by omega)]
            exact ⟨rfl, hK_25⟩
          · skip
            have hd : d < 30 := by simp only [Int32.lt_iff_toInt_lt, Int32.le_iff_toInt_le, ← Int32.toInt_inj, Int32.reduceToInt, e_d] at c_37; omega
            refine j_aload_n C dX10_giveUp_40 rfl rfl ?_
            refine j_get C dX10_giveUp_41 jf_RX10_35 (wO mO) rfl ?_
            refine j_iload C dX10_giveUp_44 rfl ?_
            refine j_iald C (d) dX10_giveUp_46 (wA mA8) (rfl) (hd) (by decide) ?_
            refine j_iload_n C dX10_giveUp_47 rfl rfl ?_
            refine j_icmp_lt (tgt := 58) C dX10_giveUp_48 (by decide) (fun c_48 => ?_) (fun c_48 => ?_)
            · skip
              have hcc : ¬ q ≤ (lkS (tM B N ru) (gV x i) (x.1 4 0) (x.1 4 0) (x.1 4 1) (x.1 4 2)) d := by rw [hl_25 d hd] at c_48; simp only [Int32.lt_iff_toInt_lt, Int32.le_iff_toInt_le, ← Int32.toInt_inj, Int32.reduceToInt] at c_48 ⊢; omega
              refine j_iload_n C dX10_giveUp_58 rfl rfl ?_
              refine j_istore_n (lv' := [(3, _), (0, _), (1, _), (2, _), (4, _)]) C dX10_giveUp_59 rfl (by decide) rfl ?_
              refine j_iinc (lv' := [(4, _), (3, _), (0, _), (1, _), (2, _)]) (v := nI (d + 1)) C dX10_giveUp_60 rfl (j_inc1 d) (by decide) rfl ?_
              refine j_goto (tgt := 33) C dX10_giveUp_63 (by decide) ?_
              refine j_lv (lv' := [(0, _), (1, _), (2, _), (3, _), (4, _)]) rfl ?_
              have e : giS (lkS (tM B N ru) (gV x i) (x.1 4 0) (x.1 4 0) (x.1 4 1) (x.1 4 2)) q (d + 1) = giS (lkS (tM B N ru) (gV x i) (x.1 4 0) (x.1 4 0) (x.1 4 1) (x.1 4 2)) q d := by rw [giS, if_neg hcc]
              have h9 := ih (d + 1) (by omega) (by omega)
              rw [e] at h9; exact h9
            · skip
              have hcc : q ≤ (lkS (tM B N ru) (gV x i) (x.1 4 0) (x.1 4 0) (x.1 4 1) (x.1 4 2)) d := by rw [hl_25 d hd] at c_48; simp only [Int32.lt_iff_toInt_lt, Int32.le_iff_toInt_le, ← Int32.toInt_inj, Int32.reduceToInt] at c_48 ⊢; omega
              refine j_iload C dX10_giveUp_51 rfl ?_
              refine j_iconst (v := 1) C dX10_giveUp_53 rfl ?_
              refine j_iadd C dX10_giveUp_54 ?_
              refine j_goto (tgt := 59) C dX10_giveUp_55 (by decide) ?_
              refine j_istore_n (lv' := [(3, _), (0, _), (1, _), (2, _), (4, _)]) C dX10_giveUp_59 rfl (by decide) rfl ?_
              refine j_iinc (lv' := [(4, _), (3, _), (0, _), (1, _), (2, _)]) (v := nI (d + 1)) C dX10_giveUp_60 rfl (j_inc1 d) (by decide) rfl ?_
              refine j_goto (tgt := 33) C dX10_giveUp_63 (by decide) ?_
              refine j_lv (lv' := [(0, _), (1, _), (2, _), (3, _), (4, _)]) rfl ?_
              have e : giS (lkS (tM B N ru) (gV x i) (x.1 4 0) (x.1 4 0) (x.1 4 1) (x.1 4 2)) q (d + 1) = d + 1 := by rw [giS, if_pos hcc]
              have h9 := ih (d + 1) (by omega) (by omega)
              rw [e, ← nI_1] at h9
              rw [← nI_1]; exact h9
      refine j_lv (lv' := [(0, _), (1, _), (2, _), (3, _), (4, _)]) rfl ?_
      exact L_33 31 0 (by omega) (by omega)
    · skip
      have hc_14 : ¬ (1 ≤ q ∧ q ≤ 100) := fun h => b_14 (by simp only [Int32.lt_iff_toInt_lt, Int32.le_iff_toInt_le, ← Int32.toInt_inj, Int32.reduceToInt, Int64.lt_iff_toInt_lt, Int64.le_iff_toInt_le, Int32.toInt_toInt64, Int64.reduceToInt] at h ⊢; omega)
      refine j_if_ne (tgt := 23) C dX10_giveUp_17 (by decide) (fun c => absurd (by decide) c) (fun _ => ?_)
      refine j_bipush (v := -2) C dX10_giveUp_20 rfl ?_
      refine hret _ _ _ _ dX10_giveUp_22 rfl ?_
      exact ⟨(if_neg (fun h => hc_14 h.2)).symm, mK_r⟩
  · skip
    refine j_if_eq (tgt := 20) C dX10_giveUp_5 (by decide) (fun _ => ?_) (fun c => absurd (by decide) c)
    refine j_bipush (v := -2) C dX10_giveUp_20 rfl ?_
    refine hret _ _ _ _ dX10_giveUp_22 rfl ?_
    exact ⟨(if_neg (fun h => b_2 h.1)).symm, mK_r⟩
set_option maxHeartbeats 4000000 in
set_option maxRecDepth 100000 in
theorem c_X10_first (l : Launch) (g : jG) (a : Nat → Nat) (x : mS) (q : Int32) (w : Int32) (m t ru : Nat) (B : Nat → Nat → Int32) (N : Nat → Nat) (hX : inM x m t ru B N) : Cl l g yX10_first cX10_first 9 45 1003 0 0 (mW g a) [.ref (a 0), .int q, .int w] x (fun r z => r = (if (0 ≤ q ∧ q < 31) ∧ (0 ≤ w ∧ w < 2) then (if w = 0 then (fiS (fun i => paS (lkS (tM B N ru) (gV x i) (x.1 4 0) (x.1 4 0) (x.1 4 1) (x.1 4 2)) q.toNatClampNeg) m).2.toInt64 else (fiS (fun i => paS (lkS (tM B N ru) (gV x i) (x.1 4 0) (x.1 4 0) (x.1 4 1) (x.1 4 2)) q.toNatClampNeg) m).1) else -4611686018427387904) ∧ mK x z) := by
  refine mk_l (by decide +kernel) rfl (fun KK hKl hKg C hin hret => ?_)
  subst hKl; subst hKg
  refine j_lv (lv' := [(0, _), (1, _), (2, _)]) rfl ?_
  have hm6 := hX.1.2
  refine j_iload_n C dX10_first_0 rfl rfl ?_
  refine j_i2l C dX10_first_1 ?_
  refine j_lconst (v := 0) C dX10_first_2 rfl ?_
  refine j_ldc2 C dX10_first_3 jc_RX10_355 ?_
  refine j_callis C (c_X10_in _ _ _ _ _ _ _ ) dX10_first_6 jm_RX10_73 ⟨by decide, by decide, by decide, by decide⟩ rfl (Nat.le_of_ble_eq_true rfl) (fun r z hz => ?_)
  obtain ⟨hb, hz⟩ := hz; have hz := hz.symm; subst hz
  rcases hb with ⟨rfl, b_6⟩ | ⟨rfl, b_6⟩
  · skip
    have hc_6 : 0 ≤ q ∧ q < 31 := by simp only [Int32.lt_iff_toInt_lt, Int32.le_iff_toInt_le, ← Int32.toInt_inj, Int32.reduceToInt, Int64.lt_iff_toInt_lt, Int64.le_iff_toInt_le, Int32.toInt_toInt64, Int64.reduceToInt] at b_6 ⊢; omega
    obtain ⟨qn, hqn, rfl⟩ := in_of (B := 31) hc_6 rfl
    refine j_if_eq (tgt := 22) C dX10_first_9 (by decide) (fun c => absurd c (by decide)) (fun _ => ?_)
    refine j_iload_n C dX10_first_12 rfl rfl ?_
    refine j_i2l C dX10_first_13 ?_
    refine j_lconst (v := 0) C dX10_first_14 rfl ?_
    refine j_lconst (v := 1) C dX10_first_15 rfl ?_
    refine j_callis C (c_X10_in _ _ _ _ _ _ _ ) dX10_first_16 jm_RX10_73 ⟨by decide, by decide, by decide, by decide⟩ rfl (Nat.le_of_ble_eq_true rfl) (fun r z hz => ?_)
    obtain ⟨hb, hz⟩ := hz; have hz := hz.symm; subst hz
    rcases hb with ⟨rfl, b_16⟩ | ⟨rfl, b_16⟩
    · skip
      have hc_16 : 0 ≤ w ∧ w < 2 := by simp only [Int32.lt_iff_toInt_lt, Int32.le_iff_toInt_le, ← Int32.toInt_inj, Int32.reduceToInt, Int64.lt_iff_toInt_lt, Int64.le_iff_toInt_le, Int32.toInt_toInt64, Int64.reduceToInt] at b_16 ⊢; omega
      refine j_if_ne (tgt := 26) C dX10_first_19 (by decide) (fun _ => ?_) (fun c => absurd c (by decide))
      refine j_iconst (v := -1) C dX10_first_26 rfl ?_
      refine j_istore_n (lv' := [(3, _), (0, _), (1, _), (2, _)]) C dX10_first_27 rfl (by decide) rfl ?_
      refine j_ldc2 C dX10_first_28 jc_RX10_363 ?_
      refine j_lstore (lv' := [(4, _), (3, _), (0, _), (1, _), (2, _)]) C dX10_first_31 (by decide) rfl ?_
      refine j_iconst (v := 0) C dX10_first_33 rfl ?_
      refine j_istore (lv' := [(6, _), (4, _), (3, _), (0, _), (1, _), (2, _)]) C dX10_first_34 (by decide) rfl ?_
      have L_36 : ∀ k : Nat, ∀ (i : Nat) (x' : mS), i ≤ m → m < i + k → mK x x' → J KK (mW (kG KK) a) 0 0 x' [(0, .ref (a 0)), (1, .int (nI qn)), (2, .int w), (3, .int (fiS (fun i => paS (lkS (tM B N ru) (gV x i) (x.1 4 0) (x.1 4 0) (x.1 4 1) (x.1 4 2)) qn) i).2), (4, .long (fiS (fun i => paS (lkS (tM B N ru) (gV x i) (x.1 4 0) (x.1 4 0) (x.1 4 1) (x.1 4 2)) qn) i).1), (6, .int (nI i))] 36 [] := by
        intro k
        induction k with
        | zero => intro i x' h1 hk hK; omega
        | succ k ih =>
          intro i x' h1 hk hK
          have e_i : (nI i).toInt = i := nI_toInt (by omega)
          have e_m : (x'.1 0 10).toInt = m := by rw [(mK_in hX hK).1.1]; exact nI_toInt (by omega)
          refine j_iload C dX10_first_36 rfl ?_
          refine j_aload_n C dX10_first_38 rfl rfl ?_
          refine j_get C dX10_first_39 jf_RX10_70 (wO mO) rfl ?_
          refine j_icmp_ge (tgt := 75) C dX10_first_42 (by decide) (fun c_42 => ?_) (fun c_42 => ?_)
          · skip
            have hi : i = m := by simp only [Int32.lt_iff_toInt_lt, Int32.le_iff_toInt_le, ← Int32.toInt_inj, Int32.reduceToInt, e_i, e_m] at c_42; omega
            subst hi
            refine j_iload_n C dX10_first_75 rfl rfl ?_
            refine j_if_ne (tgt := 84) C dX10_first_76 (by decide) (fun c_76 => ?_) (fun c_76 => ?_)
            · skip
              refine j_lload C dX10_first_84 rfl ?_
              refine hret _ _ _ _ dX10_first_86 ?_
              rw [if_pos ⟨nI_0le (n := 31) hqn (by decide), hc_16⟩, nI_clamp (show qn < 2147483648 by omega)]
              exact ⟨(if_neg c_76).symm, hK⟩
            · skip
              refine j_iload_n C dX10_first_79 rfl rfl ?_
              refine j_i2l C dX10_first_80 ?_
              refine j_goto (tgt := 86) C dX10_first_81 (by decide) ?_
              refine hret _ _ _ _ dX10_first_86 ?_
              rw [if_pos ⟨nI_0le (n := 31) hqn (by decide), hc_16⟩, nI_clamp (show qn < 2147483648 by omega)]
              exact ⟨(if_pos c_76).symm, hK⟩
          · skip
            have hi : i < m := by simp only [Int32.lt_iff_toInt_lt, Int32.le_iff_toInt_le, ← Int32.toInt_inj, Int32.reduceToInt, e_i, e_m] at c_42; omega
            refine j_aload_n C dX10_first_45 rfl rfl ?_
            refine j_iload C dX10_first_46 rfl ?_
            refine j_iload_n C dX10_first_48 rfl rfl ?_
            refine j_calllv C (c_X10_partsBy _ _ _ _ _ _ m t ru B N (mK_in hX hK) i qn rfl hi rfl (by omega)) dX10_first_49 jm_RX10_357 ⟨_, _, _, _, wO mO, rfl, rfl⟩ ⟨by decide, by decide, by decide, by decide⟩ rfl (Nat.le_of_ble_eq_true rfl) (fun r_49 z_49 hz_49 => ?_)
            obtain ⟨hr_49, hK_49⟩ := hz_49
            rw [mK_gV hK, mK_4 hK] at hr_49
            have hr_49 := hr_49.symm; subst hr_49
            refine j_lstore (lv' := [(7, _), (0, _), (1, _), (2, _), (3, _), (4, _), (6, _)]) C dX10_first_52 (by decide) rfl ?_
            refine j_lload C dX10_first_54 rfl ?_
            refine j_lload C dX10_first_56 rfl ?_
            refine j_lcmp C dX10_first_58 ?_
            refine j_if_le (tgt := 69) C dX10_first_59 (by decide) (fun c_59 => ?_) (fun c_59 => ?_)
            · rw [lg_cmp_le] at c_59
              have hcc : ¬ (fiS (fun i => paS (lkS (tM B N ru) (gV x i) (x.1 4 0) (x.1 4 0) (x.1 4 1) (x.1 4 2)) qn) i).1 < (fun i => paS (lkS (tM B N ru) (gV x i) (x.1 4 0) (x.1 4 0) (x.1 4 1) (x.1 4 2)) qn) i := by rw [Int64.lt_iff_toInt_lt]; rw [Int64.le_iff_toInt_le] at c_59; exact Int.not_lt.mpr c_59
              refine j_iinc (lv' := [(6, _), (7, _), (0, _), (1, _), (2, _), (3, _), (4, _)]) (v := nI (i + 1)) C dX10_first_69 rfl (j_inc1 i) (by decide) rfl ?_
              refine j_goto (tgt := 36) C dX10_first_72 (by decide) ?_
              refine j_lv (lv' := [(0, _), (1, _), (2, _), (3, _), (4, _), (6, _)]) rfl ?_
              have h9 := ih (i + 1) z_49 (by omega) (by omega) (mK_t hK hK_49)
              rw [fiS, if_neg hcc] at h9
              exact h9
            · rw [lg_cmp_le] at c_59
              have hcc : (fiS (fun i => paS (lkS (tM B N ru) (gV x i) (x.1 4 0) (x.1 4 0) (x.1 4 1) (x.1 4 2)) qn) i).1 < (fun i => paS (lkS (tM B N ru) (gV x i) (x.1 4 0) (x.1 4 0) (x.1 4 1) (x.1 4 2)) qn) i := by rw [Int64.lt_iff_toInt_lt]; rw [Int64.le_iff_toInt_le] at c_59; exact Int.not_le.mp c_59
              refine j_iload C dX10_first_62 rfl ?_
              refine j_istore_n (lv' := [(3, _), (7, _), (0, _), (1, _), (2, _), (4, _), (6, _)]) C dX10_first_64 rfl (by decide) rfl ?_
              refine j_lload C dX10_first_65 rfl ?_
              refine j_lstore (lv' := [(4, _), (3, _), (7, _), (0, _), (1, _), (2, _), (6, _)]) C dX10_first_67 (by decide) rfl ?_
              refine j_iinc (lv' := [(6, _), (4, _), (3, _), (7, _), (0, _), (1, _), (2, _)]) (v := nI (i + 1)) C dX10_first_69 rfl (j_inc1 i) (by decide) rfl ?_
              refine j_goto (tgt := 36) C dX10_first_72 (by decide) ?_
              refine j_lv (lv' := [(0, _), (1, _), (2, _), (3, _), (4, _), (6, _)]) rfl ?_
              have h9 := ih (i + 1) z_49 (by omega) (by omega) (mK_t hK hK_49)
              rw [fiS, if_pos hcc] at h9
              exact h9
      refine j_lv (lv' := [(0, _), (1, _), (2, _), (3, _), (4, _), (6, _)]) rfl ?_
      exact L_36 (m + 1) 0 x (by omega) (by omega) mK_r
    · skip
      have hc_16 : ¬ (0 ≤ w ∧ w < 2) := fun h => b_16 (by simp only [Int32.lt_iff_toInt_lt, Int32.le_iff_toInt_le, ← Int32.toInt_inj, Int32.reduceToInt, Int64.lt_iff_toInt_lt, Int64.le_iff_toInt_le, Int32.toInt_toInt64, Int64.reduceToInt] at h ⊢; omega)
      refine j_if_ne (tgt := 26) C dX10_first_19 (by decide) (fun c => absurd (by decide) c) (fun _ => ?_)
      refine j_ldc2 C dX10_first_22 jc_RX10_349 ?_
      refine hret _ _ _ _ dX10_first_25 ?_
      exact ⟨(if_neg (fun h => hc_16 h.2)).symm, mK_r⟩
  · skip
    have hc_6 : ¬ (0 ≤ q ∧ q < 31) := fun h => b_6 (by simp only [Int32.lt_iff_toInt_lt, Int32.le_iff_toInt_le, ← Int32.toInt_inj, Int32.reduceToInt, Int64.lt_iff_toInt_lt, Int64.le_iff_toInt_le, Int32.toInt_toInt64, Int64.reduceToInt] at h ⊢; omega)
    refine j_if_eq (tgt := 22) C dX10_first_9 (by decide) (fun _ => ?_) (fun c => absurd (by decide) c)
    refine j_ldc2 C dX10_first_22 jc_RX10_349 ?_
    refine hret _ _ _ _ dX10_first_25 ?_
    exact ⟨(if_neg (fun h => hc_6 h.1)).symm, mK_r⟩
