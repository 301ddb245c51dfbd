set_option maxHeartbeats 4000000 in
set_option maxRecDepth 100000 in
theorem c_X10_atom4 (l : Launch) (g : jG) (a : Nat → Nat) (x : mS)  (b : Nat → Int32) (n t : Nat) (p : Nat) (hrb : rbM x b n t) (hop : x.1 0 23 = nI 4) (hst : stM x b n (psS b n p)) (hp : p ≤ n) : Ci l g yX10_atom4 cX10_atom4 2 .int 10 223 0 0 (mW g a) [.ref (a 0)] x (fun r z => ocM x z b n 4 (onL (tcS b n) (tnS b n) 1 p []) r) := by
  refine mk_i (by decide +kernel) rfl (fun KK hKl hKg C hin hret => ?_)
  subst hKl; subst hKg
  refine j_lv (lv' := [(0, _)]) rfl ?_
  have e1 : onL (tcS b n) (tnS b n) 1 = oneS (tcS b n) (tnS b n) 1 (onL (tcS b n) (tnS b n) 0) (orL (tcS b n) (tnS b n) 0) := rfl
  refine j_iconst (v := 0) C dX10_atom4_0 rfl ?_
  refine j_istore_n (lv' := [(1, _), (0, _)]) C dX10_atom4_1 rfl (by decide) rfl ?_
  refine j_aload_n C dX10_atom4_2 rfl rfl ?_
  refine j_bipush (v := 45) C dX10_atom4_3 rfl ?_
  refine j_calliv C (c_X10_isSign _ _ _ _ _ (by decide) b n t p (Or.inr ⟨hrb, hst⟩)) dX10_atom4_5 jm_RX10_188 ⟨_, _, _, _, wO mO, rfl, rfl⟩ ⟨by decide, by decide, by decide, by decide⟩ rfl (Nat.le_of_ble_eq_true rfl) (fun r z hz => ?_)
  obtain ⟨hb, hz⟩ := hz; have hz := hz.symm; subst hz
  rcases hb with ⟨rfl, b_5⟩ | ⟨rfl, b_5⟩
  · skip
    have htc : tcS b n p = 45 := b_5.2
    have h14 : ¬ tcS b n p = 14 := by rw [htc]; decide
    have h15 : ¬ tcS b n p = 15 := by rw [htc]; decide
    have hlt : p < n := lt_tc h14
    refine j_if_eq (tgt := 37) C dX10_atom4_8 (by decide) (fun c => absurd c (by decide)) (fun _ => ?_)
    refine j_aload_n C dX10_atom4_11 rfl rfl ?_
    refine j_calliv C (c_X10_opens _ _ _ _  b n t p 4 hrb hst hop (by decide) h14 h15) dX10_atom4_12 jm_RX10_191 ⟨_, _, _, _, wO mO, rfl, rfl⟩ ⟨by decide, by decide, by decide, by decide⟩ rfl (Nat.le_of_ble_eq_true rfl) (fun r_12 z_12 hz_12 => ?_)
    rw [if_neg (by decide)] at hz_12
    obtain ⟨hr_12, hF_12, hO_12, hst_12⟩ := hz_12
    have hr_12 := hr_12.symm; subst hr_12
    refine j_if_eq (tgt := 161) C dX10_atom4_15 (by decide) (fun c_15 => ?_) (fun c_15 => ?_)
    · skip
      exact absurd c_15 (by decide)
    · skip
      refine j_aload_n C dX10_atom4_18 rfl rfl ?_
      refine j_calliv C (c_X10_atom5 _ _ _ _  b n t (p + 1) (rbM_m hrb hF_12) hO_12 hst_12 hlt) dX10_atom4_19 jm_RX10_199 ⟨_, _, _, _, wO mO, rfl, rfl⟩ ⟨by decide, by decide, by decide, by decide⟩ rfl (Nat.le_of_ble_eq_true rfl) (fun r_19 z_19 hz_19 => ?_)
      skip
      refine j_ineg C dX10_atom4_22 ?_
      refine j_istore_n (lv' := [(1, _), (0, _)]) C dX10_atom4_23 rfl (by decide) rfl ?_
      refine j_aload_n C dX10_atom4_24 rfl rfl ?_
      refine j_dup C dX10_atom4_25 rfl ?_
      refine j_get C dX10_atom4_26 jf_RX10_157 (wO mO) rfl ?_
      refine j_iconst (v := 1) C dX10_atom4_29 rfl ?_
      refine j_isub C dX10_atom4_30 ?_
      refine j_put C dX10_atom4_31 jp_RX10_157 (wO mO) (Nat.le_of_ble_eq_true rfl) rfl rfl (sMo 23 _ rfl) ?_
      refine j_goto (tgt := 161) C dX10_atom4_34 (by decide) ?_
      refine j_iload_n C dX10_atom4_161 rfl rfl ?_
      refine hret _ _ _ _ dX10_atom4_162 rfl ?_
      rw [e1]
      rw [one_ng htc (by decide)]
      exact oc_dn hF_12 hz_19 rfl rfl ru_neg
  · skip
    refine j_if_eq (tgt := 37) C dX10_atom4_8 (by decide) (fun _ => ?_) (fun c => absurd (by decide) c)
    refine j_aload_n C dX10_atom4_37 rfl rfl ?_
    refine j_bipush (v := 40) C dX10_atom4_38 rfl ?_
    refine j_calliv C (c_X10_isSign _ _ _ _ _ (by decide) b n t p (Or.inr ⟨hrb, hst⟩)) dX10_atom4_40 jm_RX10_188 ⟨_, _, _, _, wO mO, rfl, rfl⟩ ⟨by decide, by decide, by decide, by decide⟩ rfl (Nat.le_of_ble_eq_true rfl) (fun r z hz => ?_)
    obtain ⟨hb, hz⟩ := hz; have hz := hz.symm; subst hz
    rcases hb with ⟨rfl, b_40⟩ | ⟨rfl, b_40⟩
    · skip
      have htc : tcS b n p = 40 := b_40.2
      have h14 : ¬ tcS b n p = 14 := by rw [htc]; decide
      have h15 : ¬ tcS b n p = 15 := by rw [htc]; decide
      have hlt : p < n := lt_tc h14
      refine j_if_eq (tgt := 95) C dX10_atom4_43 (by decide) (fun c => absurd c (by decide)) (fun _ => ?_)
      refine j_aload_n C dX10_atom4_46 rfl rfl ?_
      refine j_calliv C (c_X10_opens _ _ _ _  b n t p 4 hrb hst hop (by decide) h14 h15) dX10_atom4_47 jm_RX10_191 ⟨_, _, _, _, wO mO, rfl, rfl⟩ ⟨by decide, by decide, by decide, by decide⟩ rfl (Nat.le_of_ble_eq_true rfl) (fun r_47 z_47 hz_47 => ?_)
      rw [if_neg (by decide)] at hz_47
      obtain ⟨hr_47, hF_47, hO_47, hst_47⟩ := hz_47
      have hr_47 := hr_47.symm; subst hr_47
      refine j_if_eq (tgt := 161) C dX10_atom4_50 (by decide) (fun c_50 => ?_) (fun c_50 => ?_)
      · skip
        exact absurd c_50 (by decide)
      · skip
        refine j_aload_n C dX10_atom4_53 rfl rfl ?_
        refine j_calliv C (c_X10_either5 _ _ _ _  b n t (p + 1) (rbM_m hrb hF_47) hO_47 hst_47 hlt) dX10_atom4_54 jm_RX10_218 ⟨_, _, _, _, wO mO, rfl, rfl⟩ ⟨by decide, by decide, by decide, by decide⟩ rfl (Nat.le_of_ble_eq_true rfl) (fun r_54 z_54 hz_54 => ?_)
        skip
        refine j_istore_n (lv' := [(1, _), (0, _)]) C dX10_atom4_57 rfl (by decide) rfl ?_
        refine j_aload_n C dX10_atom4_58 rfl rfl ?_
        refine j_bipush (v := 41) C dX10_atom4_59 rfl ?_
        refine j_calliv C (c_X10_isSign _ _ _ _ _ (by decide) b n t (orL (tcS b n) (tnS b n) 0 (p + 1) []).2.1 (oc_S (rbM_m hrb hF_47) hz_54)) dX10_atom4_61 jm_RX10_188 ⟨_, _, _, _, wO mO, rfl, rfl⟩ ⟨by decide, by decide, by decide, by decide⟩ rfl (Nat.le_of_ble_eq_true rfl) (fun r z hz => ?_)
        obtain ⟨hb, hz⟩ := hz; have hz := hz.symm; subst hz
        rcases hb with ⟨rfl, b_61⟩ | ⟨rfl, b_61⟩
        · skip
          obtain ⟨hR1, hst3, hvl⟩ := oc_1 hz_54 b_61.1
          have htc3 : tcS b n (orL (tcS b n) (tnS b n) 0 (p + 1) []).2.1 = 41 := b_61.2
          have g14 : ¬ tcS b n (orL (tcS b n) (tnS b n) 0 (p + 1) []).2.1 = 14 := by rw [htc3]; decide
          have g15 : ¬ tcS b n (orL (tcS b n) (tnS b n) 0 (p + 1) []).2.1 = 15 := by rw [htc3]; decide
          have hF3 : mF x (mU z_54 0 23 (z_54.1 0 23 - 1)) := mF_t hF_47 (mF_t hz_54.1 (mF_1 (by decide)))
          have hst4 : stM (mU z_54 0 23 (z_54.1 0 23 - 1)) b n (psS b n (orL (tcS b n) (tnS b n) 0 (p + 1) []).2.1) := stM_23 hst3
          have hO4 : (mU z_54 0 23 (z_54.1 0 23 - 1)).1 0 23 = nI 4 := by rw [mU_1, uM_s, hz_54.2.1]; exact (pk_sub (a := 5) (b := 1) (by omega)).trans rfl
          refine j_if_ne (tgt := 71) C dX10_atom4_64 (by decide) (fun _ => ?_) (fun c => absurd c (by decide))
          refine j_aload_n C dX10_atom4_71 rfl rfl ?_
          refine j_dup C dX10_atom4_72 rfl ?_
          refine j_get C dX10_atom4_73 jf_RX10_157 (wO mO) rfl ?_
          refine j_iconst (v := 1) C dX10_atom4_76 rfl ?_
          refine j_isub C dX10_atom4_77 ?_
          refine j_put C dX10_atom4_78 jp_RX10_157 (wO mO) (Nat.le_of_ble_eq_true rfl) rfl rfl (sMo 23 _ rfl) ?_
          refine j_aload_n C dX10_atom4_81 rfl rfl ?_
          refine j_get C dX10_atom4_82 jf_RX10_146 (wO mO) rfl ?_
          refine j_if_ne (tgt := 161) C dX10_atom4_85 (by decide) (fun c_85 => ?_) (fun c_85 => ?_)
          · skip
            exact absurd hst4.1 c_85
          · skip
            skip
            refine j_aload_n C dX10_atom4_88 rfl rfl ?_
            refine j_callvv C (c_X10_next _ _ _ _  b n t (tkE b n (psS b n (orL (tcS b n) (tnS b n) 0 (p + 1) []).2.1)) (rbM_m hrb hF3) (hst4.2.2.2.2.1.trans (congrArg nI (hr_ok g14 g15).1)) (tkE_gt (hr_ok g14 g15).2.1).2) dX10_atom4_89 jm_RX10_163 ⟨_, _, _, _, wO mO, rfl, rfl⟩ ⟨by decide, by decide, by decide, by decide⟩ rfl (Nat.le_of_ble_eq_true rfl) (fun z_89 hz_89 => ?_)
            obtain ⟨hn_89, ht_89⟩ := hz_89
            rw [(hr_ok g14 g15).2.2] at ht_89
            refine j_goto (tgt := 161) C dX10_atom4_92 (by decide) ?_
            refine j_iload_n C dX10_atom4_161 rfl rfl ?_
            refine hret _ _ _ _ dX10_atom4_162 rfl ?_
            rw [e1]
            rw [one_py htc (by decide) ⟨hR1, htc3⟩]
            exact oc_y hF3 hO4 hst4.1 hn_89 ht_89 (eM_m hF_47 ▸ hvl)
        · skip
          have hno : ¬ ((orL (tcS b n) (tnS b n) 0 (p + 1) []).1 = true ∧ tcS b n (orL (tcS b n) (tnS b n) 0 (p + 1) []).2.1 = 41) := fun h => b_61 ⟨oc_0 hz_54 h.1, h.2⟩
          refine j_if_ne (tgt := 71) C dX10_atom4_64 (by decide) (fun c => absurd (by decide) c) (fun _ => ?_)
          refine j_aload_n C dX10_atom4_67 rfl rfl ?_
          refine j_callvv C (c_X10_fail _ _ _ _  ) dX10_atom4_68 jm_RX10_160 ⟨_, _, _, _, wO mO, rfl, rfl⟩ ⟨by decide, by decide, by decide, by decide⟩ rfl (Nat.le_of_ble_eq_true rfl) (fun z_68 hz_68 => ?_)
          have hz_68 := hz_68.symm; subst hz_68
          refine j_aload_n C dX10_atom4_71 rfl rfl ?_
          refine j_dup C dX10_atom4_72 rfl ?_
          refine j_get C dX10_atom4_73 jf_RX10_157 (wO mO) rfl ?_
          refine j_iconst (v := 1) C dX10_atom4_76 rfl ?_
          refine j_isub C dX10_atom4_77 ?_
          refine j_put C dX10_atom4_78 jp_RX10_157 (wO mO) (Nat.le_of_ble_eq_true rfl) rfl rfl (sMo 23 _ rfl) ?_
          refine j_aload_n C dX10_atom4_81 rfl rfl ?_
          refine j_get C dX10_atom4_82 jf_RX10_146 (wO mO) rfl ?_
          refine j_if_ne (tgt := 161) C dX10_atom4_85 (by decide) (fun c_85 => ?_) (fun c_85 => ?_)
          · skip
            skip
            refine j_iload_n C dX10_atom4_161 rfl rfl ?_
            refine hret _ _ _ _ dX10_atom4_162 rfl ?_
            rw [e1]
            rw [one_pn htc (by decide) hno]
            exact ⟨mF_t hF_47 (mF_t hz_54.1 (mF_t flM_m (mF_1 (by decide)))), by rw [mU_1, uM_s, fl_23, hz_54.2.1]; exact (pk_sub (a := 5) (b := 1) (by omega)).trans rfl, Or.inr ⟨rfl, by rw [mU_1, uM_n (by decide)]; exact fl_24, by rw [mU_1, uM_n (by decide)]; exact oc_fl (R := (orL (tcS b n) (tnS b n) 0 (p + 1) [])) hz_54⟩⟩
          · skip
            exact absurd c_85 (by rw [mU_1, uM_n (by decide)]; exact fl_24)
    · skip
      have n45 : ¬ tcS b n p = 45 := fun h => b_5 ⟨hst.1, h⟩
      have n40 : ¬ tcS b n p = 40 := fun h => b_40 ⟨hst.1, h⟩
      refine j_if_eq (tgt := 95) C dX10_atom4_43 (by decide) (fun _ => ?_) (fun c => absurd (by decide) c)
      refine j_aload_n C dX10_atom4_95 rfl rfl ?_
      refine j_get C dX10_atom4_96 jf_RX10_146 (wO mO) rfl ?_
      refine j_if_ne (tgt := 123) C dX10_atom4_99 (by decide) (fun c_99 => ?_) (fun c_99 => ?_)
      · skip
        exact absurd hst.1 c_99
      · skip
        refine j_aload_n C dX10_atom4_102 rfl rfl ?_
        refine j_get C dX10_atom4_103 jf_RX10_129 (wO mO) rfl ?_
        refine j_iconst (v := 2) C dX10_atom4_106 rfl ?_
        refine j_icmp_ne (tgt := 123) C dX10_atom4_107 (by decide) (fun c_107 => ?_) (fun c_107 => ?_)
        · skip
          have n13 : ¬ tcS b n p = 13 := fun h => c_107 (hst.2.2.2.1.trans (kd_nu.mpr h))
          refine j_aload_n C dX10_atom4_123 rfl rfl ?_
          refine j_get C dX10_atom4_124 jf_RX10_146 (wO mO) rfl ?_
          refine j_if_ne (tgt := 157) C dX10_atom4_127 (by decide) (fun c_127 => ?_) (fun c_127 => ?_)
          · skip
            exact absurd hst.1 c_127
          · skip
            refine j_aload_n C dX10_atom4_130 rfl rfl ?_
            refine j_get C dX10_atom4_131 jf_RX10_129 (wO mO) rfl ?_
            refine j_iconst (v := 1) C dX10_atom4_134 rfl ?_
            refine j_icmp_ne (tgt := 157) C dX10_atom4_135 (by decide) (fun c_135 => ?_) (fun c_135 => ?_)
            · skip
              have nnm : ¬ (1 ≤ tcS b n p ∧ tcS b n p ≤ 6) := fun h => c_135 (hst.2.2.2.1.trans (tc_name ⟨h.1, Int32.le_trans h.2 (by decide)⟩))
              refine j_aload_n C dX10_atom4_157 rfl rfl ?_
              refine j_callvv C (c_X10_fail _ _ _ _  ) dX10_atom4_158 jm_RX10_160 ⟨_, _, _, _, wO mO, rfl, rfl⟩ ⟨by decide, by decide, by decide, by decide⟩ rfl (Nat.le_of_ble_eq_true rfl) (fun z_158 hz_158 => ?_)
              have hz_158 := hz_158.symm; subst hz_158
              refine j_iload_n C dX10_atom4_161 rfl rfl ?_
              refine hret _ _ _ _ dX10_atom4_162 rfl ?_
              rw [e1]
              rw [one_no n13 nnm (Or.inl ⟨n45, n40⟩)]
              exact oc_no hst hop
            · skip
              refine j_aload_n C dX10_atom4_138 rfl rfl ?_
              refine j_calliv C (c_X10_name _ _ _ _  b n t p hrb hst) dX10_atom4_139 jm_RX10_195 ⟨_, _, _, _, wO mO, rfl, rfl⟩ ⟨by decide, by decide, by decide, by decide⟩ rfl (Nat.le_of_ble_eq_true rfl) (fun r_139 z_139 hz_139 => ?_)
              skip
              refine j_istore_n (lv' := [(1, _), (0, _)]) C dX10_atom4_142 rfl (by decide) rfl ?_
              refine j_aload_n C dX10_atom4_143 rfl rfl ?_
              refine j_get C dX10_atom4_144 jf_RX10_146 (wO mO) rfl ?_
              refine j_if_ne (tgt := 161) C dX10_atom4_147 (by decide) (fun c_147 => ?_) (fun c_147 => ?_)
              · skip
                have nnm : ¬ (1 ≤ tcS b n p ∧ tcS b n p ≤ 6) := fun h => by
                  rw [if_pos h] at hz_139
                  rw [hz_139.2] at c_147; exact c_147 hst.1
                rw [if_neg nnm] at hz_139
                obtain ⟨hr_139, hz9⟩ := hz_139
                have hz9 := hz9.symm; subst hz9
                refine j_iload_n C dX10_atom4_161 rfl rfl ?_
                refine hret _ _ _ _ dX10_atom4_162 rfl ?_
                rw [e1]
                rw [one_no n13 nnm (Or.inl ⟨n45, n40⟩)]
                exact oc_no hst hop
              · skip
                have hnm : 1 ≤ tcS b n p ∧ tcS b n p ≤ 6 := by
                  by_cases h : 1 ≤ tcS b n p ∧ tcS b n p ≤ 6
                  · exact h
                  · rw [if_neg h] at hz_139
                    rw [hz_139.2] at c_147; exact absurd c_147 fl_24
                rw [if_pos hnm] at hz_139
                obtain ⟨hr_139, hz9⟩ := hz_139
                have hz9 := hz9.symm; have hr_139 := hr_139.symm; subst hz9; subst hr_139
                have h14 : ¬ tcS b n p = 14 := fun h => by rw [h] at hnm; exact absurd hnm.2 (by decide)
                have h15 : ¬ tcS b n p = 15 := fun h => by rw [h] at hnm; exact absurd hnm.2 (by decide)
                refine j_aload_n C dX10_atom4_150 rfl rfl ?_
                refine j_callvv C (c_X10_next _ _ _ _  b n t (tkE b n (psS b n p)) hrb (hst.2.2.2.2.1.trans (congrArg nI (hr_ok h14 h15).1)) (tkE_gt (hr_ok h14 h15).2.1).2) dX10_atom4_151 jm_RX10_163 ⟨_, _, _, _, wO mO, rfl, rfl⟩ ⟨by decide, by decide, by decide, by decide⟩ rfl (Nat.le_of_ble_eq_true rfl) (fun z_151 hz_151 => ?_)
                obtain ⟨hn_151, ht_151⟩ := hz_151
                rw [(hr_ok h14 h15).2.2] at ht_151
                refine j_goto (tgt := 161) C dX10_atom4_154 (by decide) ?_
                refine j_iload_n C dX10_atom4_161 rfl rfl ?_
                refine hret _ _ _ _ dX10_atom4_162 rfl ?_
                rw [e1]
                rw [one_nm hnm]
                exact oc_y mF_r hop hst.1 hn_151 ht_151 (ru_nam hnm)
        · skip
          have hk : kdS b n (psS b n p) = 2 := hst.2.2.2.1.symm.trans c_107
          have htc : tcS b n p = 13 := kd_nu.mp hk
          have h14 : ¬ tcS b n p = 14 := by rw [htc]; decide
          have h15 : ¬ tcS b n p = 15 := by rw [htc]; decide
          refine j_aload_n C dX10_atom4_110 rfl rfl ?_
          refine j_get C dX10_atom4_111 jf_RX10_140 (wO mO) rfl ?_
          refine j_l2i C dX10_atom4_114 ?_
          refine j_istore_n (lv' := [(1, _), (0, _)]) C dX10_atom4_115 rfl (by decide) rfl ?_
          refine j_aload_n C dX10_atom4_116 rfl rfl ?_
          refine j_callvv C (c_X10_next _ _ _ _  b n t (tkE b n (psS b n p)) hrb (hst.2.2.2.2.1.trans (congrArg nI (hr_ok h14 h15).1)) (tkE_gt (hr_ok h14 h15).2.1).2) dX10_atom4_117 jm_RX10_163 ⟨_, _, _, _, wO mO, rfl, rfl⟩ ⟨by decide, by decide, by decide, by decide⟩ rfl (Nat.le_of_ble_eq_true rfl) (fun z_117 hz_117 => ?_)
          obtain ⟨hn_117, ht_117⟩ := hz_117
          rw [(hr_ok h14 h15).2.2] at ht_117
          refine j_goto (tgt := 161) C dX10_atom4_120 (by decide) ?_
          refine j_iload_n C dX10_atom4_161 rfl rfl ?_
          refine hret _ _ _ _ dX10_atom4_162 rfl ?_
          rw [e1]
          rw [one_13 htc]
          exact oc_y mF_r hop hst.1 hn_117 ht_117 (by rw [tn_64 hst htc]; exact ru_num (tn_pos htc))
set_option maxHeartbeats 4000000 in
set_option maxRecDepth 100000 in
theorem c_X10_term4 (l : Launch) (g : jG) (a : Nat → Nat) (x : mS)  (b : Nat → Int32) (n t : Nat) (p : Nat) (hrb : rbM x b n t) (hop : x.1 0 23 = nI 4) (hst : stM x b n (psS b n p)) (hp : p ≤ n) : Ci l g yX10_term4 cX10_term4 2 .int 11 244 0 0 (mW g a) [.ref (a 0)] x (fun r z => ocM x z b n 4 (teL (tcS b n) (tnS b n) 1 p []) r) := by
  refine mk_i (by decide +kernel) rfl (fun KK hKl hKg C hin hret => ?_)
  subst hKl; subst hKg
  refine j_lv (lv' := [(0, _)]) rfl ?_
  have hgf := (lvS_gd (tc := tcS b n) (tn := tnS b n) (N := n) tc_n 1).1
  have hho := (lvS_ho (tc := tcS b n) (tn := tnS b n) 1).1
  refine j_aload_n C dX10_term4_0 rfl rfl ?_
  refine j_calliv C (c_X10_atom4 _ _ _ _  b n t p hrb hop hst hp) dX10_term4_1 jm_RX10_221 ⟨_, _, _, _, wO mO, rfl, rfl⟩ ⟨by decide, by decide, by decide, by decide⟩ rfl (Nat.le_of_ble_eq_true rfl) (fun r_1 z_1 hz_1 => ?_)
  skip
  refine j_istore_n (lv' := [(1, _), (0, _)]) C dX10_term4_4 rfl (by decide) rfl ?_
  have L_5 : ∀ k : Nat, ∀ (i : Nat) (R : PS) (x' : mS) (v : Int32), i ≤ 160 → 160 < i + k → i ≤ R.2.1 → R.2.1 ≤ n → ocM x x' b n 4 R v → (lpS (tcS b n) okM (onL (tcS b n) (tnS b n) 1) 160 ((onL (tcS b n) (tnS b n) 1) p []) = lpS (tcS b n) okM (onL (tcS b n) (tnS b n) 1) (160 - i) R) → J KK (mW (kG KK) a) 0 0 x' [(0, .ref (a 0)), (1, .int v)] 5 [] := by
    intro k
    induction k with
    | zero => intro i R x' v h1 hk hi hR hoc hL; omega
    | succ k ih =>
      intro i R x' v h1 hk hi hR hoc hL
      have hrb' := rbM_m hrb hoc.1
      have hS' := oc_S hrb hoc
      refine j_aload_n C dX10_term4_5 rfl rfl ?_
      refine j_bipush (v := 42) C dX10_term4_6 rfl ?_
      refine j_calliv C (c_X10_isSign _ _ _ _ _ (by decide) b n t R.2.1 hS') dX10_term4_8 jm_RX10_188 ⟨_, _, _, _, wO mO, rfl, rfl⟩ ⟨by decide, by decide, by decide, by decide⟩ rfl (Nat.le_of_ble_eq_true rfl) (fun r z hz => ?_)
      obtain ⟨hb, hz⟩ := hz; have hz := hz.symm; subst hz
      rcases hb with ⟨rfl, b_8⟩ | ⟨rfl, b_8⟩
      · skip
        obtain ⟨hR1, hst', hvl⟩ := oc_1 hoc b_8.1
        have htc : tcS b n R.2.1 = 42 := b_8.2
        have h14 : ¬ tcS b n R.2.1 = 14 := by rw [htc]; decide
        have h15 : ¬ tcS b n R.2.1 = 15 := by rw [htc]; decide
        have hlt : R.2.1 < n := lt_tc h14
        have hn160 := hrb.2.2.2.1
        obtain ⟨m, hm⟩ : ∃ m, 160 - i = m + 1 := ⟨159 - i, by omega⟩
        refine j_if_eq (tgt := 28) C dX10_term4_11 (by decide) (fun c => absurd c (by decide)) (fun _ => ?_)
        refine j_aload_n C dX10_term4_14 rfl rfl ?_
        refine j_callvv C (c_X10_next _ _ _ _  b n t (tkE b n (psS b n R.2.1)) hrb' (hst'.2.2.2.2.1.trans (congrArg nI (hr_ok h14 h15).1)) (tkE_gt (hr_ok h14 h15).2.1).2) dX10_term4_15 jm_RX10_163 ⟨_, _, _, _, wO mO, rfl, rfl⟩ ⟨by decide, by decide, by decide, by decide⟩ rfl (Nat.le_of_ble_eq_true rfl) (fun z_15 hz_15 => ?_)
        obtain ⟨hn_15, ht_15⟩ := hz_15
        rw [(hr_ok h14 h15).2.2] at ht_15
        have hst2 : stM z_15 b n (psS b n (R.2.1 + 1)) := ⟨(hn_15.2 24 (by decide)).trans hst'.1, ht_15⟩
        have hF2 : mF x z_15 := mF_t hoc.1 (nxF_m hn_15)
        have hO2 : z_15.1 0 23 = nI 4 := (hn_15.2 23 (by decide)).trans hoc.2.1
        refine j_iload_n C dX10_term4_18 rfl rfl ?_
        refine j_aload_n C dX10_term4_19 rfl rfl ?_
        refine j_calliv C (c_X10_atom4 _ _ _ _  b n t (R.2.1 + 1) (rbM_m hrb hF2) hO2 hst2 hlt) dX10_term4_20 jm_RX10_221 ⟨_, _, _, _, wO mO, rfl, rfl⟩ ⟨by decide, by decide, by decide, by decide⟩ rfl (Nat.le_of_ble_eq_true rfl) (fun r_20 z_20 hz_20 => ?_)
        skip
        refine j_imul C dX10_term4_23 ?_
        refine j_istore_n (lv' := [(1, _), (0, _)]) C dX10_term4_24 rfl (by decide) rfl ?_
        refine j_goto (tgt := 5) C dX10_term4_25 (by decide) ?_
        refine j_lv (lv' := [(0, _), (1, _)]) rfl ?_
        have hst9 : stM z_15 b n (psS b n (R.2.1 + 1)) := hst2
        exact ih (i + 1) (((onL (tcS b n) (tnS b n) 1) (R.2.1 + 1) R.2.2).1, ((onL (tcS b n) (tnS b n) 1) (R.2.1 + 1) R.2.2).2.1, ((onL (tcS b n) (tnS b n) 1) (R.2.1 + 1) R.2.2).2.2 ++ [-(tcS b n R.2.1)]) _ _ (by omega) (by omega) (by have := hgf (R.2.1 + 1) R.2.2 hlt; show i + 1 ≤ ((onL (tcS b n) (tnS b n) 1) (R.2.1 + 1) R.2.2).2.1; omega) (hgf (R.2.1 + 1) R.2.2 hlt).2.1 (oc_lp (42) _ hho htc hF2 hvl hz_20 (by decide) (by decide) (by decide) (by decide) (by decide) (jn_42)) (by
          rw [hm, lpS_y ⟨hR1, by rw [htc]; rfl⟩] at hL
          rw [hL, show 160 - (i + 1) = m by omega])
      · skip
        have hend : lpS (tcS b n) okM (onL (tcS b n) (tnS b n) 1) (160 - i) R = R := lpS_n (fun h => by
          have h2 := h.2
          simp only [okM, Bool.or_eq_true, beq_iff_eq] at h2
          exact b_8 ⟨oc_0 hoc h.1, h2⟩)
        refine j_if_eq (tgt := 28) C dX10_term4_11 (by decide) (fun _ => ?_) (fun c => absurd (by decide) c)
        refine j_iload_n C dX10_term4_28 rfl rfl ?_
        refine hret _ _ _ _ dX10_term4_29 rfl ?_
        have e9 : teL (tcS b n) (tnS b n) 1 p [] = R := by
          skip
          show lpS (tcS b n) okM (onL (tcS b n) (tnS b n) 1) 160 ((onL (tcS b n) (tnS b n) 1) p []) = R
          rw [hL, hend]
        rw [e9]; exact hoc
  refine j_lv (lv' := [(0, _), (1, _)]) rfl ?_
  have hq0 := hgf p [] hp
  exact L_5 161 0 ((onL (tcS b n) (tnS b n) 1) p []) _ _ (by omega) (by omega) (by omega) hq0.2.1 hz_1 rfl
set_option maxHeartbeats 4000000 in
set_option maxRecDepth 100000 in
theorem c_X10_added4 (l : Launch) (g : jG) (a : Nat → Nat) (x : mS)  (b : Nat → Int32) (n t : Nat) (p : Nat) (hrb : rbM x b n t) (hop : x.1 0 23 = nI 4) (hst : stM x b n (psS b n p)) (hp : p ≤ n) : Ci l g yX10_added4 cX10_added4 4 .int 12 265 0 0 (mW g a) [.ref (a 0)] x (fun r z => ocM x z b n 4 (suL (tcS b n) (tnS b n) 1 p []) r) := by
  refine mk_i (by decide +kernel) rfl (fun KK hKl hKg C hin hret => ?_)
  subst hKl; subst hKg
  refine j_lv (lv' := [(0, _)]) rfl ?_
  have hgf := (lvS_gd (tc := tcS b n) (tn := tnS b n) (N := n) tc_n 1).2.2.2.2.1
  have hho := (lvS_ho (tc := tcS b n) (tn := tnS b n) 1).2.2.2.2.1
  refine j_aload_n C dX10_added4_0 rfl rfl ?_
  refine j_calliv C (c_X10_term4 _ _ _ _  b n t p hrb hop hst hp) dX10_added4_1 jm_RX10_224 ⟨_, _, _, _, wO mO, rfl, rfl⟩ ⟨by decide, by decide, by decide, by decide⟩ rfl (Nat.le_of_ble_eq_true rfl) (fun r_1 z_1 hz_1 => ?_)
  skip
  refine j_istore_n (lv' := [(1, _), (0, _)]) C dX10_added4_4 rfl (by decide) rfl ?_
  have L_5 : ∀ k : Nat, ∀ (i : Nat) (R : PS) (x' : mS) (v : Int32), i ≤ 160 → 160 < i + k → i ≤ R.2.1 → R.2.1 ≤ n → ocM x x' b n 4 R v → (lpS (tcS b n) okA (teL (tcS b n) (tnS b n) 1) 160 ((teL (tcS b n) (tnS b n) 1) p []) = lpS (tcS b n) okA (teL (tcS b n) (tnS b n) 1) (160 - i) R) → J KK (mW (kG KK) a) 0 0 x' [(0, .ref (a 0)), (1, .int v)] 5 [] := by
    intro k
    induction k with
    | zero => intro i R x' v h1 hk hi hR hoc hL; omega
    | succ k ih =>
      intro i R x' v h1 hk hi hR hoc hL
      have hrb' := rbM_m hrb hoc.1
      have hS' := oc_S hrb hoc
      refine j_aload_n C dX10_added4_5 rfl rfl ?_
      refine j_bipush (v := 43) C dX10_added4_6 rfl ?_
      refine j_calliv C (c_X10_isSign _ _ _ _ _ (by decide) b n t R.2.1 hS') dX10_added4_8 jm_RX10_188 ⟨_, _, _, _, wO mO, rfl, rfl⟩ ⟨by decide, by decide, by decide, by decide⟩ rfl (Nat.le_of_ble_eq_true rfl) (fun r z hz => ?_)
      obtain ⟨hb, hz⟩ := hz; have hz := hz.symm; subst hz
      rcases hb with ⟨rfl, b_8⟩ | ⟨rfl, b_8⟩
      · skip
        obtain ⟨hR1, hst', hvl⟩ := oc_1 hoc b_8.1
        have htc : tcS b n R.2.1 = 43 := b_8.2
        have h14 : ¬ tcS b n R.2.1 = 14 := by rw [htc]; decide
        have h15 : ¬ tcS b n R.2.1 = 15 := by rw [htc]; decide
        have hlt : R.2.1 < n := lt_tc h14
        have hn160 := hrb.2.2.2.1
        obtain ⟨m, hm⟩ : ∃ m, 160 - i = m + 1 := ⟨159 - i, by omega⟩
        refine j_if_ne (tgt := 23) C dX10_added4_11 (by decide) (fun _ => ?_) (fun c => absurd c (by decide))
        refine j_aload_n C dX10_added4_23 rfl rfl ?_
        refine j_get C dX10_added4_24 jf_RX10_140 (wO mO) rfl ?_
        refine j_ldc2 C dX10_added4_27 jc_RX10_205 ?_
        refine j_lcmp C dX10_added4_30 ?_
        refine j_if_ne (tgt := 38) C dX10_added4_31 (by decide) (fun c_31 => ?_) (fun c_31 => ?_)
        · rw [lg_cmp_eq] at c_31
          exact absurd (sg_64 hst' (by decide) htc) c_31
        · rw [lg_cmp_eq] at c_31
          skip
          refine j_iconst (v := 1) C dX10_added4_34 rfl ?_
          refine j_goto (tgt := 39) C dX10_added4_35 (by decide) ?_
          refine j_istore_n (lv' := [(2, _), (0, _), (1, _)]) C dX10_added4_39 rfl (by decide) rfl ?_
          refine j_aload_n C dX10_added4_40 rfl rfl ?_
          refine j_callvv C (c_X10_next _ _ _ _  b n t (tkE b n (psS b n R.2.1)) hrb' (hst'.2.2.2.2.1.trans (congrArg nI (hr_ok h14 h15).1)) (tkE_gt (hr_ok h14 h15).2.1).2) dX10_added4_41 jm_RX10_163 ⟨_, _, _, _, wO mO, rfl, rfl⟩ ⟨by decide, by decide, by decide, by decide⟩ rfl (Nat.le_of_ble_eq_true rfl) (fun z_41 hz_41 => ?_)
          obtain ⟨hn_41, ht_41⟩ := hz_41
          rw [(hr_ok h14 h15).2.2] at ht_41
          have hst2 : stM z_41 b n (psS b n (R.2.1 + 1)) := ⟨(hn_41.2 24 (by decide)).trans hst'.1, ht_41⟩
          have hF2 : mF x z_41 := mF_t hoc.1 (nxF_m hn_41)
          have hO2 : z_41.1 0 23 = nI 4 := (hn_41.2 23 (by decide)).trans hoc.2.1
          refine j_aload_n C dX10_added4_44 rfl rfl ?_
          refine j_calliv C (c_X10_term4 _ _ _ _  b n t (R.2.1 + 1) (rbM_m hrb hF2) hO2 hst2 hlt) dX10_added4_45 jm_RX10_224 ⟨_, _, _, _, wO mO, rfl, rfl⟩ ⟨by decide, by decide, by decide, by decide⟩ rfl (Nat.le_of_ble_eq_true rfl) (fun r_45 z_45 hz_45 => ?_)
          skip
          refine j_istore_n (lv' := [(3, _), (2, _), (0, _), (1, _)]) C dX10_added4_48 rfl (by decide) rfl ?_
          refine j_iload_n C dX10_added4_49 rfl rfl ?_
          refine j_if_eq (tgt := 59) C dX10_added4_50 (by decide) (fun c => absurd c (by decide)) (fun _ => ?_)
          refine j_iload_n C dX10_added4_53 rfl rfl ?_
          refine j_iload_n C dX10_added4_54 rfl rfl ?_
          refine j_iadd C dX10_added4_55 ?_
          refine j_goto (tgt := 62) C dX10_added4_56 (by decide) ?_
          refine j_istore_n (lv' := [(1, _), (3, _), (2, _), (0, _)]) C dX10_added4_62 rfl (by decide) rfl ?_
          refine j_goto (tgt := 5) C dX10_added4_63 (by decide) ?_
          refine j_lv (lv' := [(0, _), (1, _)]) rfl ?_
          have hst9 : stM z_41 b n (psS b n (R.2.1 + 1)) := hst2
          exact ih (i + 1) (((teL (tcS b n) (tnS b n) 1) (R.2.1 + 1) R.2.2).1, ((teL (tcS b n) (tnS b n) 1) (R.2.1 + 1) R.2.2).2.1, ((teL (tcS b n) (tnS b n) 1) (R.2.1 + 1) R.2.2).2.2 ++ [-(tcS b n R.2.1)]) _ _ (by omega) (by omega) (by have := hgf (R.2.1 + 1) R.2.2 hlt; show i + 1 ≤ ((teL (tcS b n) (tnS b n) 1) (R.2.1 + 1) R.2.2).2.1; omega) (hgf (R.2.1 + 1) R.2.2 hlt).2.1 (oc_lp (43) _ hho htc hF2 hvl hz_45 (by decide) (by decide) (by decide) (by decide) (by decide) (jn_43)) (by
            rw [hm, lpS_y ⟨hR1, by rw [htc]; rfl⟩] at hL
            rw [hL, show 160 - (i + 1) = m by omega])
      · skip
        refine j_if_ne (tgt := 23) C dX10_added4_11 (by decide) (fun c => absurd (by decide) c) (fun _ => ?_)
        refine j_aload_n C dX10_added4_14 rfl rfl ?_
        refine j_bipush (v := 45) C dX10_added4_15 rfl ?_
        refine j_calliv C (c_X10_isSign _ _ _ _ _ (by decide) b n t R.2.1 hS') dX10_added4_17 jm_RX10_188 ⟨_, _, _, _, wO mO, rfl, rfl⟩ ⟨by decide, by decide, by decide, by decide⟩ rfl (Nat.le_of_ble_eq_true rfl) (fun r z hz => ?_)
        obtain ⟨hb, hz⟩ := hz; have hz := hz.symm; subst hz
        rcases hb with ⟨rfl, b_17⟩ | ⟨rfl, b_17⟩
        · skip
          obtain ⟨hR1, hst', hvl⟩ := oc_1 hoc b_17.1
          have htc : tcS b n R.2.1 = 45 := b_17.2
          have h14 : ¬ tcS b n R.2.1 = 14 := by rw [htc]; decide
          have h15 : ¬ tcS b n R.2.1 = 15 := by rw [htc]; decide
          have hlt : R.2.1 < n := lt_tc h14
          have hn160 := hrb.2.2.2.1
          obtain ⟨m, hm⟩ : ∃ m, 160 - i = m + 1 := ⟨159 - i, by omega⟩
          refine j_if_eq (tgt := 66) C dX10_added4_20 (by decide) (fun c => absurd c (by decide)) (fun _ => ?_)
          refine j_aload_n C dX10_added4_23 rfl rfl ?_
          refine j_get C dX10_added4_24 jf_RX10_140 (wO mO) rfl ?_
          refine j_ldc2 C dX10_added4_27 jc_RX10_205 ?_
          refine j_lcmp C dX10_added4_30 ?_
          refine j_if_ne (tgt := 38) C dX10_added4_31 (by decide) (fun c_31 => ?_) (fun c_31 => ?_)
          · rw [lg_cmp_eq] at c_31
            skip
            refine j_iconst (v := 0) C dX10_added4_38 rfl ?_
            refine j_istore_n (lv' := [(2, _), (0, _), (1, _)]) C dX10_added4_39 rfl (by decide) rfl ?_
            refine j_aload_n C dX10_added4_40 rfl rfl ?_
            refine j_callvv C (c_X10_next _ _ _ _  b n t (tkE b n (psS b n R.2.1)) hrb' (hst'.2.2.2.2.1.trans (congrArg nI (hr_ok h14 h15).1)) (tkE_gt (hr_ok h14 h15).2.1).2) dX10_added4_41 jm_RX10_163 ⟨_, _, _, _, wO mO, rfl, rfl⟩ ⟨by decide, by decide, by decide, by decide⟩ rfl (Nat.le_of_ble_eq_true rfl) (fun z_41 hz_41 => ?_)
            obtain ⟨hn_41, ht_41⟩ := hz_41
            rw [(hr_ok h14 h15).2.2] at ht_41
            have hst2 : stM z_41 b n (psS b n (R.2.1 + 1)) := ⟨(hn_41.2 24 (by decide)).trans hst'.1, ht_41⟩
            have hF2 : mF x z_41 := mF_t hoc.1 (nxF_m hn_41)
            have hO2 : z_41.1 0 23 = nI 4 := (hn_41.2 23 (by decide)).trans hoc.2.1
            refine j_aload_n C dX10_added4_44 rfl rfl ?_
            refine j_calliv C (c_X10_term4 _ _ _ _  b n t (R.2.1 + 1) (rbM_m hrb hF2) hO2 hst2 hlt) dX10_added4_45 jm_RX10_224 ⟨_, _, _, _, wO mO, rfl, rfl⟩ ⟨by decide, by decide, by decide, by decide⟩ rfl (Nat.le_of_ble_eq_true rfl) (fun r_45 z_45 hz_45 => ?_)
            skip
            refine j_istore_n (lv' := [(3, _), (2, _), (0, _), (1, _)]) C dX10_added4_48 rfl (by decide) rfl ?_
            refine j_iload_n C dX10_added4_49 rfl rfl ?_
            refine j_if_eq (tgt := 59) C dX10_added4_50 (by decide) (fun _ => ?_) (fun c => absurd (by decide) c)
            refine j_iload_n C dX10_added4_59 rfl rfl ?_
            refine j_iload_n C dX10_added4_60 rfl rfl ?_
            refine j_isub C dX10_added4_61 ?_
            refine j_istore_n (lv' := [(1, _), (3, _), (2, _), (0, _)]) C dX10_added4_62 rfl (by decide) rfl ?_
            refine j_goto (tgt := 5) C dX10_added4_63 (by decide) ?_
            refine j_lv (lv' := [(0, _), (1, _)]) rfl ?_
            have hst9 : stM z_41 b n (psS b n (R.2.1 + 1)) := hst2
            exact ih (i + 1) (((teL (tcS b n) (tnS b n) 1) (R.2.1 + 1) R.2.2).1, ((teL (tcS b n) (tnS b n) 1) (R.2.1 + 1) R.2.2).2.1, ((teL (tcS b n) (tnS b n) 1) (R.2.1 + 1) R.2.2).2.2 ++ [-(tcS b n R.2.1)]) _ _ (by omega) (by omega) (by have := hgf (R.2.1 + 1) R.2.2 hlt; show i + 1 ≤ ((teL (tcS b n) (tnS b n) 1) (R.2.1 + 1) R.2.2).2.1; omega) (hgf (R.2.1 + 1) R.2.2 hlt).2.1 (oc_lp (45) _ hho htc hF2 hvl hz_45 (by decide) (by decide) (by decide) (by decide) (by decide) (jn_45)) (by
              rw [hm, lpS_y ⟨hR1, by rw [htc]; rfl⟩] at hL
              rw [hL, show 160 - (i + 1) = m by omega])
          · rw [lg_cmp_eq] at c_31
            exact absurd ((sg_64 hst' (by decide) htc).symm.trans c_31) (by decide)
        · skip
          have hend : lpS (tcS b n) okA (teL (tcS b n) (tnS b n) 1) (160 - i) R = R := lpS_n (fun h => by
            have h2 := h.2
            simp only [okA, Bool.or_eq_true, beq_iff_eq] at h2
            rcases h2 with h2 | h2
            · exact b_8 ⟨oc_0 hoc h.1, h2⟩
            · exact b_17 ⟨oc_0 hoc h.1, h2⟩)
          refine j_if_eq (tgt := 66) C dX10_added4_20 (by decide) (fun _ => ?_) (fun c => absurd (by decide) c)
          refine j_iload_n C dX10_added4_66 rfl rfl ?_
          refine hret _ _ _ _ dX10_added4_67 rfl ?_
          have e9 : suL (tcS b n) (tnS b n) 1 p [] = R := by
            skip
            show lpS (tcS b n) okA (teL (tcS b n) (tnS b n) 1) 160 ((teL (tcS b n) (tnS b n) 1) p []) = R
            rw [hL, hend]
          rw [e9]; exact hoc
  refine j_lv (lv' := [(0, _), (1, _)]) rfl ?_
  have hq0 := hgf p [] hp
  exact L_5 161 0 ((teL (tcS b n) (tnS b n) 1) p []) _ _ (by omega) (by omega) (by omega) hq0.2.1 hz_1 rfl
set_option maxHeartbeats 4000000 in
set_option maxRecDepth 100000 in
theorem c_X10_not4 (l : Launch) (g : jG) (a : Nat → Nat) (x : mS)  (b : Nat → Int32) (n t : Nat) (p : Nat) (hrb : rbM x b n t) (hop : x.1 0 23 = nI 4) (hst : stM x b n (psS b n p)) (hp : p ≤ n) : Ci l g yX10_not4 cX10_not4 4 .int 13 288 0 0 (mW g a) [.ref (a 0)] x (fun r z => ocM x z b n 4 (ntL (tcS b n) (tnS b n) 1 p []) r) := by
  refine mk_i (by decide +kernel) rfl (fun KK hKl hKg C hin hret => ?_)
  subst hKl; subst hKg
  refine j_lv (lv' := [(0, _)]) rfl ?_
  have e1 : ntL (tcS b n) (tnS b n) 1 = ntS (tcS b n) 1 (ntL (tcS b n) (tnS b n) 0) (suL (tcS b n) (tnS b n) 1) := rfl
  have hgf := (lvS_gd (tc := tcS b n) (tn := tnS b n) (N := n) tc_n 1).2.2.2.1
  have hho := (lvS_ho (tc := tcS b n) (tn := tnS b n) 1).2.2.2.1
  refine j_aload_n C dX10_not4_0 rfl rfl ?_
  refine j_bipush (v := 110) C dX10_not4_1 rfl ?_
  refine j_bipush (v := 111) C dX10_not4_3 rfl ?_
  refine j_bipush (v := 116) C dX10_not4_5 rfl ?_
  refine j_iconst (v := 0) C dX10_not4_7 rfl ?_
  refine j_iconst (v := 0) C dX10_not4_8 rfl ?_
  refine j_iconst (v := 0) C dX10_not4_9 rfl ?_
  refine j_iconst (v := 0) C dX10_not4_10 rfl ?_
  refine j_iconst (v := 0) C dX10_not4_11 rfl ?_
  refine j_calliv C (c_X10_isWord _ _ _ _ _ _ _ _ _ _ _ _ 12 (by decide) rfl rfl rfl rfl rfl rfl rfl rfl b n t p (Or.inr ⟨hrb, hst⟩)) dX10_not4_12 jm_RX10_166 ⟨_, _, _, _, wO mO, rfl, rfl⟩ ⟨by decide, by decide, by decide, by decide⟩ rfl (Nat.le_of_ble_eq_true rfl) (fun r z hz => ?_)
  obtain ⟨hb, hz⟩ := hz; have hz := hz.symm; subst hz
  rcases hb with ⟨rfl, b_12⟩ | ⟨rfl, b_12⟩
  · skip
    have htc : tcS b n p = 12 := b_12.2
    have h14 : ¬ tcS b n p = 14 := by rw [htc]; decide
    have h15 : ¬ tcS b n p = 15 := by rw [htc]; decide
    have hlt : p < n := lt_tc h14
    refine j_if_eq (tgt := 52) C dX10_not4_15 (by decide) (fun c => absurd c (by decide)) (fun _ => ?_)
    refine j_aload_n C dX10_not4_18 rfl rfl ?_
    refine j_calliv C (c_X10_opens _ _ _ _  b n t p 4 hrb hst hop (by decide) h14 h15) dX10_not4_19 jm_RX10_191 ⟨_, _, _, _, wO mO, rfl, rfl⟩ ⟨by decide, by decide, by decide, by decide⟩ rfl (Nat.le_of_ble_eq_true rfl) (fun r_19 z_19 hz_19 => ?_)
    rw [if_neg (by decide)] at hz_19
    obtain ⟨hr_19, hF_19, hO_19, hst_19⟩ := hz_19
    have hr_19 := hr_19.symm; subst hr_19
    refine j_if_ne (tgt := 27) C dX10_not4_22 (by decide) (fun c_22 => ?_) (fun c_22 => ?_)
    · skip
      refine j_aload_n C dX10_not4_27 rfl rfl ?_
      refine j_calliv C (c_X10_not5 _ _ _ _  b n t (p + 1) (rbM_m hrb hF_19) hO_19 hst_19 hlt) dX10_not4_28 jm_RX10_212 ⟨_, _, _, _, wO mO, rfl, rfl⟩ ⟨by decide, by decide, by decide, by decide⟩ rfl (Nat.le_of_ble_eq_true rfl) (fun r_28 z_28 hz_28 => ?_)
      skip
      refine j_istore_n (lv' := [(1, _), (0, _)]) C dX10_not4_31 rfl (by decide) rfl ?_
      refine j_aload_n C dX10_not4_32 rfl rfl ?_
      refine j_dup C dX10_not4_33 rfl ?_
      refine j_get C dX10_not4_34 jf_RX10_157 (wO mO) rfl ?_
      refine j_iconst (v := 1) C dX10_not4_37 rfl ?_
      refine j_isub C dX10_not4_38 ?_
      refine j_put C dX10_not4_39 jp_RX10_157 (wO mO) (Nat.le_of_ble_eq_true rfl) rfl rfl (sMo 23 _ rfl) ?_
      refine j_iload_n C dX10_not4_42 rfl rfl ?_
      refine j_if_ne (tgt := 50) C dX10_not4_43 (by decide) (fun c_43 => ?_) (fun c_43 => ?_)
      · skip
        refine j_iconst (v := 0) C dX10_not4_50 rfl ?_
        refine hret _ _ _ _ dX10_not4_51 rfl ?_
        rw [e1]
        rw [nt_12 htc (by decide)]
        exact oc_dn hF_19 hz_28 rfl rfl (fun h s => by rw [ru_not h, if_neg c_43])
      · skip
        refine j_iconst (v := 1) C dX10_not4_46 rfl ?_
        refine j_goto (tgt := 51) C dX10_not4_47 (by decide) ?_
        refine hret _ _ _ _ dX10_not4_51 rfl ?_
        rw [e1]
        rw [nt_12 htc (by decide)]
        exact oc_dn hF_19 hz_28 rfl rfl (fun h s => by rw [ru_not h, if_pos c_43])
    · skip
      exact absurd c_22 (by decide)
  · skip
    have n12 : ¬ tcS b n p = 12 := fun h => b_12 ⟨hst.1, h⟩
    refine j_if_eq (tgt := 52) C dX10_not4_15 (by decide) (fun _ => ?_) (fun c => absurd (by decide) c)
    refine j_aload_n C dX10_not4_52 rfl rfl ?_
    refine j_calliv C (c_X10_added4 _ _ _ _  b n t p hrb hop hst hp) dX10_not4_53 jm_RX10_227 ⟨_, _, _, _, wO mO, rfl, rfl⟩ ⟨by decide, by decide, by decide, by decide⟩ rfl (Nat.le_of_ble_eq_true rfl) (fun r_53 z_53 hz_53 => ?_)
    have hS1 := oc_S hrb hz_53
    have hrb1 := rbM_m hrb hz_53.1
    have hq1 := hgf p [] hp
    refine j_istore_n (lv' := [(1, _), (0, _)]) C dX10_not4_56 rfl (by decide) rfl ?_
    refine j_aload_n C dX10_not4_57 rfl rfl ?_
    refine j_bipush (v := 60) C dX10_not4_58 rfl ?_
    refine j_calliv C (c_X10_isSign _ _ _ _ _ (by decide) b n t ((suL (tcS b n) (tnS b n) 1) p []).2.1 hS1) dX10_not4_60 jm_RX10_188 ⟨_, _, _, _, wO mO, rfl, rfl⟩ ⟨by decide, by decide, by decide, by decide⟩ rfl (Nat.le_of_ble_eq_true rfl) (fun r z hz => ?_)
    obtain ⟨hb, hz⟩ := hz; have hz := hz.symm; subst hz
    rcases hb with ⟨rfl, b_60⟩ | ⟨rfl, b_60⟩
    · skip
      obtain ⟨hR1, hst1, hvl⟩ := oc_1 hz_53 b_60.1
      have htc : tcS b n ((suL (tcS b n) (tnS b n) 1) p []).2.1 = 60 := b_60.2
      have h14 : ¬ tcS b n ((suL (tcS b n) (tnS b n) 1) p []).2.1 = 14 := by rw [htc]; decide
      have h15 : ¬ tcS b n ((suL (tcS b n) (tnS b n) 1) p []).2.1 = 15 := by rw [htc]; decide
      have hlt : ((suL (tcS b n) (tnS b n) 1) p []).2.1 < n := lt_tc h14
      have hw2 := sg_64 hst1 (by decide) htc
      refine j_if_ne (tgt := 77) C dX10_not4_63 (by decide) (fun _ => ?_) (fun c => absurd c (by decide))
      refine j_aload_n C dX10_not4_77 rfl rfl ?_
      refine j_get C dX10_not4_78 jf_RX10_140 (wO mO) rfl ?_
      refine j_ldc2 C dX10_not4_81 jc_RX10_210 ?_
      refine j_lcmp C dX10_not4_84 ?_
      refine j_if_ne (tgt := 92) C dX10_not4_85 (by decide) (fun c_85 => ?_) (fun c_85 => ?_)
      · rw [lg_cmp_eq] at c_85
        exact absurd hw2 c_85
      · rw [lg_cmp_eq] at c_85
        skip
        refine j_iconst (v := 1) C dX10_not4_88 rfl ?_
        refine j_goto (tgt := 93) C dX10_not4_89 (by decide) ?_
        refine j_istore_n (lv' := [(2, _), (1, _), (0, _)]) C dX10_not4_93 rfl (by decide) rfl ?_
        refine j_aload_n C dX10_not4_94 rfl rfl ?_
        refine j_callvv C (c_X10_next _ _ _ _  b n t (tkE b n (psS b n ((suL (tcS b n) (tnS b n) 1) p []).2.1)) hrb1 (hst1.2.2.2.2.1.trans (congrArg nI (hr_ok h14 h15).1)) (tkE_gt (hr_ok h14 h15).2.1).2) dX10_not4_95 jm_RX10_163 ⟨_, _, _, _, wO mO, rfl, rfl⟩ ⟨by decide, by decide, by decide, by decide⟩ rfl (Nat.le_of_ble_eq_true rfl) (fun z_95 hz_95 => ?_)
        obtain ⟨hn_95, ht_95⟩ := hz_95
        rw [(hr_ok h14 h15).2.2] at ht_95
        have hst2 : stM z_95 b n (psS b n (((suL (tcS b n) (tnS b n) 1) p []).2.1 + 1)) := ⟨(hn_95.2 24 (by decide)).trans hst1.1, ht_95⟩
        have hF2 : mF x z_95 := mF_t hz_53.1 (nxF_m hn_95)
        have hO2 : z_95.1 0 23 = nI 4 := (hn_95.2 23 (by decide)).trans hz_53.2.1
        refine j_aload_n C dX10_not4_98 rfl rfl ?_
        refine j_calliv C (c_X10_added4 _ _ _ _  b n t (((suL (tcS b n) (tnS b n) 1) p []).2.1 + 1) (rbM_m hrb hF2) hO2 hst2 hlt) dX10_not4_99 jm_RX10_227 ⟨_, _, _, _, wO mO, rfl, rfl⟩ ⟨by decide, by decide, by decide, by decide⟩ rfl (Nat.le_of_ble_eq_true rfl) (fun r_99 z_99 hz_99 => ?_)
        skip
        refine j_istore_n (lv' := [(3, _), (2, _), (1, _), (0, _)]) C dX10_not4_102 rfl (by decide) rfl ?_
        refine j_iload_n C dX10_not4_103 rfl rfl ?_
        refine j_if_eq (tgt := 115) C dX10_not4_104 (by decide) (fun c => absurd c (by decide)) (fun _ => ?_)
        refine j_iload_n C dX10_not4_107 rfl rfl ?_
        refine j_iload_n C dX10_not4_108 rfl rfl ?_
        refine j_icmp_ge (tgt := 124) C dX10_not4_109 (by decide) (fun c_109 => ?_) (fun c_109 => ?_)
        · skip
          refine j_iconst (v := 0) C dX10_not4_124 rfl ?_
          refine hret _ _ _ _ dX10_not4_125 rfl ?_
          rw [e1]
          rw [nt_cm hho n12 hR1 (Or.inl htc)]
          have e2 := oc_lp (f := (suL (tcS b n) (tnS b n) 1)) (R := ((suL (tcS b n) (tnS b n) 1) p [])) (60) 0 hho htc hF2 hvl hz_99 (by decide) (by decide) (by decide) (by decide) (by decide) (by rw [jn_60, if_neg (by simp only [Int32.lt_iff_toInt_lt, Int32.le_iff_toInt_le, ← Int32.toInt_inj, Int32.reduceToInt] at c_109 ⊢; omega)])
          rw [hho (((suL (tcS b n) (tnS b n) 1) p []).2.1 + 1) ((suL (tcS b n) (tnS b n) 1) p []).2.2] at e2; exact e2
        · skip
          refine j_goto (tgt := 120) C dX10_not4_112 (by decide) ?_
          refine j_iconst (v := 1) C dX10_not4_120 rfl ?_
          refine j_goto (tgt := 125) C dX10_not4_121 (by decide) ?_
          refine hret _ _ _ _ dX10_not4_125 rfl ?_
          rw [e1]
          rw [nt_cm hho n12 hR1 (Or.inl htc)]
          have e2 := oc_lp (f := (suL (tcS b n) (tnS b n) 1)) (R := ((suL (tcS b n) (tnS b n) 1) p [])) (60) 1 hho htc hF2 hvl hz_99 (by decide) (by decide) (by decide) (by decide) (by decide) (by rw [jn_60, if_pos (by simp only [Int32.lt_iff_toInt_lt, Int32.le_iff_toInt_le, ← Int32.toInt_inj, Int32.reduceToInt] at c_109 ⊢; omega)])
          rw [hho (((suL (tcS b n) (tnS b n) 1) p []).2.1 + 1) ((suL (tcS b n) (tnS b n) 1) p []).2.2] at e2; exact e2
    · skip
      refine j_if_ne (tgt := 77) C dX10_not4_63 (by decide) (fun c => absurd (by decide) c) (fun _ => ?_)
      refine j_aload_n C dX10_not4_66 rfl rfl ?_
      refine j_bipush (v := 61) C dX10_not4_67 rfl ?_
      refine j_calliv C (c_X10_isSign _ _ _ _ _ (by decide) b n t ((suL (tcS b n) (tnS b n) 1) p []).2.1 hS1) dX10_not4_69 jm_RX10_188 ⟨_, _, _, _, wO mO, rfl, rfl⟩ ⟨by decide, by decide, by decide, by decide⟩ rfl (Nat.le_of_ble_eq_true rfl) (fun r z hz => ?_)
      obtain ⟨hb, hz⟩ := hz; have hz := hz.symm; subst hz
      rcases hb with ⟨rfl, b_69⟩ | ⟨rfl, b_69⟩
      · skip
        obtain ⟨hR1, hst1, hvl⟩ := oc_1 hz_53 b_69.1
        have htc : tcS b n ((suL (tcS b n) (tnS b n) 1) p []).2.1 = 61 := b_69.2
        have h14 : ¬ tcS b n ((suL (tcS b n) (tnS b n) 1) p []).2.1 = 14 := by rw [htc]; decide
        have h15 : ¬ tcS b n ((suL (tcS b n) (tnS b n) 1) p []).2.1 = 15 := by rw [htc]; decide
        have hlt : ((suL (tcS b n) (tnS b n) 1) p []).2.1 < n := lt_tc h14
        have hw2 := sg_64 hst1 (by decide) htc
        refine j_if_ne (tgt := 77) C dX10_not4_72 (by decide) (fun _ => ?_) (fun c => absurd c (by decide))
        refine j_aload_n C dX10_not4_77 rfl rfl ?_
        refine j_get C dX10_not4_78 jf_RX10_140 (wO mO) rfl ?_
        refine j_ldc2 C dX10_not4_81 jc_RX10_210 ?_
        refine j_lcmp C dX10_not4_84 ?_
        refine j_if_ne (tgt := 92) C dX10_not4_85 (by decide) (fun c_85 => ?_) (fun c_85 => ?_)
        · rw [lg_cmp_eq] at c_85
          skip
          refine j_iconst (v := 0) C dX10_not4_92 rfl ?_
          refine j_istore_n (lv' := [(2, _), (1, _), (0, _)]) C dX10_not4_93 rfl (by decide) rfl ?_
          refine j_aload_n C dX10_not4_94 rfl rfl ?_
          refine j_callvv C (c_X10_next _ _ _ _  b n t (tkE b n (psS b n ((suL (tcS b n) (tnS b n) 1) p []).2.1)) hrb1 (hst1.2.2.2.2.1.trans (congrArg nI (hr_ok h14 h15).1)) (tkE_gt (hr_ok h14 h15).2.1).2) dX10_not4_95 jm_RX10_163 ⟨_, _, _, _, wO mO, rfl, rfl⟩ ⟨by decide, by decide, by decide, by decide⟩ rfl (Nat.le_of_ble_eq_true rfl) (fun z_95 hz_95 => ?_)
          obtain ⟨hn_95, ht_95⟩ := hz_95
          rw [(hr_ok h14 h15).2.2] at ht_95
          have hst2 : stM z_95 b n (psS b n (((suL (tcS b n) (tnS b n) 1) p []).2.1 + 1)) := ⟨(hn_95.2 24 (by decide)).trans hst1.1, ht_95⟩
          have hF2 : mF x z_95 := mF_t hz_53.1 (nxF_m hn_95)
          have hO2 : z_95.1 0 23 = nI 4 := (hn_95.2 23 (by decide)).trans hz_53.2.1
          refine j_aload_n C dX10_not4_98 rfl rfl ?_
          refine j_calliv C (c_X10_added4 _ _ _ _  b n t (((suL (tcS b n) (tnS b n) 1) p []).2.1 + 1) (rbM_m hrb hF2) hO2 hst2 hlt) dX10_not4_99 jm_RX10_227 ⟨_, _, _, _, wO mO, rfl, rfl⟩ ⟨by decide, by decide, by decide, by decide⟩ rfl (Nat.le_of_ble_eq_true rfl) (fun r_99 z_99 hz_99 => ?_)
          skip
          refine j_istore_n (lv' := [(3, _), (2, _), (1, _), (0, _)]) C dX10_not4_102 rfl (by decide) rfl ?_
          refine j_iload_n C dX10_not4_103 rfl rfl ?_
          refine j_if_eq (tgt := 115) C dX10_not4_104 (by decide) (fun _ => ?_) (fun c => absurd (by decide) c)
          refine j_iload_n C dX10_not4_115 rfl rfl ?_
          refine j_iload_n C dX10_not4_116 rfl rfl ?_
          refine j_icmp_ne (tgt := 124) C dX10_not4_117 (by decide) (fun c_117 => ?_) (fun c_117 => ?_)
          · skip
            refine j_iconst (v := 0) C dX10_not4_124 rfl ?_
            refine hret _ _ _ _ dX10_not4_125 rfl ?_
            rw [e1]
            rw [nt_cm hho n12 hR1 (Or.inr htc)]
            have e2 := oc_lp (f := (suL (tcS b n) (tnS b n) 1)) (R := ((suL (tcS b n) (tnS b n) 1) p [])) (61) 0 hho htc hF2 hvl hz_99 (by decide) (by decide) (by decide) (by decide) (by decide) (by rw [jn_61, if_neg c_117])
            rw [hho (((suL (tcS b n) (tnS b n) 1) p []).2.1 + 1) ((suL (tcS b n) (tnS b n) 1) p []).2.2] at e2; exact e2
          · skip
            refine j_iconst (v := 1) C dX10_not4_120 rfl ?_
            refine j_goto (tgt := 125) C dX10_not4_121 (by decide) ?_
            refine hret _ _ _ _ dX10_not4_125 rfl ?_
            rw [e1]
            rw [nt_cm hho n12 hR1 (Or.inr htc)]
            have e2 := oc_lp (f := (suL (tcS b n) (tnS b n) 1)) (R := ((suL (tcS b n) (tnS b n) 1) p [])) (61) 1 hho htc hF2 hvl hz_99 (by decide) (by decide) (by decide) (by decide) (by decide) (by rw [jn_61, if_pos c_117])
            rw [hho (((suL (tcS b n) (tnS b n) 1) p []).2.1 + 1) ((suL (tcS b n) (tnS b n) 1) p []).2.2] at e2; exact e2
        · rw [lg_cmp_eq] at c_85
          exact absurd (hw2.symm.trans c_85) (by decide)
      · skip
        have hno : ((suL (tcS b n) (tnS b n) 1) p []).1 = true → ¬ (tcS b n ((suL (tcS b n) (tnS b n) 1) p []).2.1 = 60 ∨ tcS b n ((suL (tcS b n) (tnS b n) 1) p []).2.1 = 61) := fun h h2 => h2.elim (fun k => b_60 ⟨oc_0 hz_53 h, k⟩) (fun k => b_69 ⟨oc_0 hz_53 h, k⟩)
        refine j_if_ne (tgt := 77) C dX10_not4_72 (by decide) (fun c => absurd (by decide) c) (fun _ => ?_)
        refine j_iload_n C dX10_not4_75 rfl rfl ?_
        refine hret _ _ _ _ dX10_not4_76 rfl ?_
        rw [e1]
        rw [nt_su n12 hno]
        exact hz_53
set_option maxHeartbeats 4000000 in
set_option maxRecDepth 100000 in
theorem c_X10_both4 (l : Launch) (g : jG) (a : Nat → Nat) (x : mS)  (b : Nat → Int32) (n t : Nat) (p : Nat) (hrb : rbM x b n t) (hop : x.1 0 23 = nI 4) (hst : stM x b n (psS b n p)) (hp : p ≤ n) : Ci l g yX10_both4 cX10_both4 3 .int 14 311 0 0 (mW g a) [.ref (a 0)] x (fun r z => ocM x z b n 4 (anL (tcS b n) (tnS b n) 1 p []) r) := by
  refine mk_i (by decide +kernel) rfl (fun KK hKl hKg C hin hret => ?_)
  subst hKl; subst hKg
  refine j_lv (lv' := [(0, _)]) rfl ?_
  have hgf := (lvS_gd (tc := tcS b n) (tn := tnS b n) (N := n) tc_n 1).2.1
  have hho := (lvS_ho (tc := tcS b n) (tn := tnS b n) 1).2.1
  refine j_aload_n C dX10_both4_0 rfl rfl ?_
  refine j_calliv C (c_X10_not4 _ _ _ _  b n t p hrb hop hst hp) dX10_both4_1 jm_RX10_230 ⟨_, _, _, _, wO mO, rfl, rfl⟩ ⟨by decide, by decide, by decide, by decide⟩ rfl (Nat.le_of_ble_eq_true rfl) (fun r_1 z_1 hz_1 => ?_)
  skip
  refine j_istore_n (lv' := [(1, _), (0, _)]) C dX10_both4_4 rfl (by decide) rfl ?_
  have L_5 : ∀ k : Nat, ∀ (i : Nat) (R : PS) (x' : mS) (v : Int32), i ≤ 160 → 160 < i + k → i ≤ R.2.1 → R.2.1 ≤ n → ocM x x' b n 4 R v → (lpS (tcS b n) okN (ntL (tcS b n) (tnS b n) 1) 160 ((ntL (tcS b n) (tnS b n) 1) p []) = lpS (tcS b n) okN (ntL (tcS b n) (tnS b n) 1) (160 - i) R) → J KK (mW (kG KK) a) 0 0 x' [(0, .ref (a 0)), (1, .int v)] 5 [] := by
    intro k
    induction k with
    | zero => intro i R x' v h1 hk hi hR hoc hL; omega
    | succ k ih =>
      intro i R x' v h1 hk hi hR hoc hL
      have hrb' := rbM_m hrb hoc.1
      have hS' := oc_S hrb hoc
      refine j_aload_n C dX10_both4_5 rfl rfl ?_
      refine j_bipush (v := 97) C dX10_both4_6 rfl ?_
      refine j_bipush (v := 110) C dX10_both4_8 rfl ?_
      refine j_bipush (v := 100) C dX10_both4_10 rfl ?_
      refine j_iconst (v := 0) C dX10_both4_12 rfl ?_
      refine j_iconst (v := 0) C dX10_both4_13 rfl ?_
      refine j_iconst (v := 0) C dX10_both4_14 rfl ?_
      refine j_iconst (v := 0) C dX10_both4_15 rfl ?_
      refine j_iconst (v := 0) C dX10_both4_16 rfl ?_
      refine j_calliv C (c_X10_isWord _ _ _ _ _ _ _ _ _ _ _ _ 11 (by decide) rfl rfl rfl rfl rfl rfl rfl rfl b n t R.2.1 hS') dX10_both4_17 jm_RX10_166 ⟨_, _, _, _, wO mO, rfl, rfl⟩ ⟨by decide, by decide, by decide, by decide⟩ rfl (Nat.le_of_ble_eq_true rfl) (fun r z hz => ?_)
      obtain ⟨hb, hz⟩ := hz; have hz := hz.symm; subst hz
      rcases hb with ⟨rfl, b_17⟩ | ⟨rfl, b_17⟩
      · skip
        obtain ⟨hR1, hst', hvl⟩ := oc_1 hoc b_17.1
        have htc : tcS b n R.2.1 = 11 := b_17.2
        have h14 : ¬ tcS b n R.2.1 = 14 := by rw [htc]; decide
        have h15 : ¬ tcS b n R.2.1 = 15 := by rw [htc]; decide
        have hlt : R.2.1 < n := lt_tc h14
        have hn160 := hrb.2.2.2.1
        obtain ⟨m, hm⟩ : ∃ m, 160 - i = m + 1 := ⟨159 - i, by omega⟩
        refine j_if_eq (tgt := 49) C dX10_both4_20 (by decide) (fun c => absurd c (by decide)) (fun _ => ?_)
        refine j_aload_n C dX10_both4_23 rfl rfl ?_
        refine j_callvv C (c_X10_next _ _ _ _  b n t (tkE b n (psS b n R.2.1)) hrb' (hst'.2.2.2.2.1.trans (congrArg nI (hr_ok h14 h15).1)) (tkE_gt (hr_ok h14 h15).2.1).2) dX10_both4_24 jm_RX10_163 ⟨_, _, _, _, wO mO, rfl, rfl⟩ ⟨by decide, by decide, by decide, by decide⟩ rfl (Nat.le_of_ble_eq_true rfl) (fun z_24 hz_24 => ?_)
        obtain ⟨hn_24, ht_24⟩ := hz_24
        rw [(hr_ok h14 h15).2.2] at ht_24
        have hst2 : stM z_24 b n (psS b n (R.2.1 + 1)) := ⟨(hn_24.2 24 (by decide)).trans hst'.1, ht_24⟩
        have hF2 : mF x z_24 := mF_t hoc.1 (nxF_m hn_24)
        have hO2 : z_24.1 0 23 = nI 4 := (hn_24.2 23 (by decide)).trans hoc.2.1
        refine j_aload_n C dX10_both4_27 rfl rfl ?_
        refine j_calliv C (c_X10_not4 _ _ _ _  b n t (R.2.1 + 1) (rbM_m hrb hF2) hO2 hst2 hlt) dX10_both4_28 jm_RX10_230 ⟨_, _, _, _, wO mO, rfl, rfl⟩ ⟨by decide, by decide, by decide, by decide⟩ rfl (Nat.le_of_ble_eq_true rfl) (fun r_28 z_28 hz_28 => ?_)
        skip
        refine j_istore_n (lv' := [(2, _), (0, _), (1, _)]) C dX10_both4_31 rfl (by decide) rfl ?_
        refine j_iload_n C dX10_both4_32 rfl rfl ?_
        refine j_if_eq (tgt := 44) C dX10_both4_33 (by decide) (fun c_33 => ?_) (fun c_33 => ?_)
        · skip
          refine j_iconst (v := 0) C dX10_both4_44 rfl ?_
          refine j_istore_n (lv' := [(1, _), (2, _), (0, _)]) C dX10_both4_45 rfl (by decide) rfl ?_
          refine j_goto (tgt := 5) C dX10_both4_46 (by decide) ?_
          refine j_lv (lv' := [(0, _), (1, _)]) rfl ?_
          have hst9 : stM z_24 b n (psS b n (R.2.1 + 1)) := hst2
          exact ih (i + 1) (((ntL (tcS b n) (tnS b n) 1) (R.2.1 + 1) R.2.2).1, ((ntL (tcS b n) (tnS b n) 1) (R.2.1 + 1) R.2.2).2.1, ((ntL (tcS b n) (tnS b n) 1) (R.2.1 + 1) R.2.2).2.2 ++ [-(tcS b n R.2.1)]) _ _ (by omega) (by omega) (by have := hgf (R.2.1 + 1) R.2.2 hlt; show i + 1 ≤ ((ntL (tcS b n) (tnS b n) 1) (R.2.1 + 1) R.2.2).2.1; omega) (hgf (R.2.1 + 1) R.2.2 hlt).2.1 (oc_lp (11) _ hho htc hF2 hvl hz_28 (by decide) (by decide) (by decide) (by decide) (by decide) (by rw [jn_11]; first | exact if_pos (Or.inl c_33) | exact if_pos (Or.inr c_37))) (by
            rw [hm, lpS_y ⟨hR1, by rw [htc]; rfl⟩] at hL
            rw [hL, show 160 - (i + 1) = m by omega])
        · skip
          refine j_iload_n C dX10_both4_36 rfl rfl ?_
          refine j_if_eq (tgt := 44) C dX10_both4_37 (by decide) (fun c_37 => ?_) (fun c_37 => ?_)
          · skip
            refine j_iconst (v := 0) C dX10_both4_44 rfl ?_
            refine j_istore_n (lv' := [(1, _), (2, _), (0, _)]) C dX10_both4_45 rfl (by decide) rfl ?_
            refine j_goto (tgt := 5) C dX10_both4_46 (by decide) ?_
            refine j_lv (lv' := [(0, _), (1, _)]) rfl ?_
            have hst9 : stM z_24 b n (psS b n (R.2.1 + 1)) := hst2
            exact ih (i + 1) (((ntL (tcS b n) (tnS b n) 1) (R.2.1 + 1) R.2.2).1, ((ntL (tcS b n) (tnS b n) 1) (R.2.1 + 1) R.2.2).2.1, ((ntL (tcS b n) (tnS b n) 1) (R.2.1 + 1) R.2.2).2.2 ++ [-(tcS b n R.2.1)]) _ _ (by omega) (by omega) (by have := hgf (R.2.1 + 1) R.2.2 hlt; show i + 1 ≤ ((ntL (tcS b n) (tnS b n) 1) (R.2.1 + 1) R.2.2).2.1; omega) (hgf (R.2.1 + 1) R.2.2 hlt).2.1 (oc_lp (11) _ hho htc hF2 hvl hz_28 (by decide) (by decide) (by decide) (by decide) (by decide) (by rw [jn_11]; first | exact if_pos (Or.inl c_33) | exact if_pos (Or.inr c_37))) (by
              rw [hm, lpS_y ⟨hR1, by rw [htc]; rfl⟩] at hL
              rw [hL, show 160 - (i + 1) = m by omega])
          · skip
            refine j_iconst (v := 1) C dX10_both4_40 rfl ?_
            refine j_goto (tgt := 45) C dX10_both4_41 (by decide) ?_
            refine j_istore_n (lv' := [(1, _), (2, _), (0, _)]) C dX10_both4_45 rfl (by decide) rfl ?_
            refine j_goto (tgt := 5) C dX10_both4_46 (by decide) ?_
            refine j_lv (lv' := [(0, _), (1, _)]) rfl ?_
            have hst9 : stM z_24 b n (psS b n (R.2.1 + 1)) := hst2
            exact ih (i + 1) (((ntL (tcS b n) (tnS b n) 1) (R.2.1 + 1) R.2.2).1, ((ntL (tcS b n) (tnS b n) 1) (R.2.1 + 1) R.2.2).2.1, ((ntL (tcS b n) (tnS b n) 1) (R.2.1 + 1) R.2.2).2.2 ++ [-(tcS b n R.2.1)]) _ _ (by omega) (by omega) (by have := hgf (R.2.1 + 1) R.2.2 hlt; show i + 1 ≤ ((ntL (tcS b n) (tnS b n) 1) (R.2.1 + 1) R.2.2).2.1; omega) (hgf (R.2.1 + 1) R.2.2 hlt).2.1 (oc_lp (11) _ hho htc hF2 hvl hz_28 (by decide) (by decide) (by decide) (by decide) (by decide) (by rw [jn_11]; first | exact if_neg (fun h => h.elim c_33 c_37))) (by
              rw [hm, lpS_y ⟨hR1, by rw [htc]; rfl⟩] at hL
              rw [hL, show 160 - (i + 1) = m by omega])
      · skip
        have hend : lpS (tcS b n) okN (ntL (tcS b n) (tnS b n) 1) (160 - i) R = R := lpS_n (fun h => by
          have h2 := h.2
          simp only [okN, Bool.or_eq_true, beq_iff_eq] at h2
          exact b_17 ⟨oc_0 hoc h.1, h2⟩)
        refine j_if_eq (tgt := 49) C dX10_both4_20 (by decide) (fun _ => ?_) (fun c => absurd (by decide) c)
        refine j_iload_n C dX10_both4_49 rfl rfl ?_
        refine hret _ _ _ _ dX10_both4_50 rfl ?_
        have e9 : anL (tcS b n) (tnS b n) 1 p [] = R := by
          skip
          show lpS (tcS b n) okN (ntL (tcS b n) (tnS b n) 1) 160 ((ntL (tcS b n) (tnS b n) 1) p []) = R
          rw [hL, hend]
        rw [e9]; exact hoc
  refine j_lv (lv' := [(0, _), (1, _)]) rfl ?_
  have hq0 := hgf p [] hp
  exact L_5 161 0 ((ntL (tcS b n) (tnS b n) 1) p []) _ _ (by omega) (by omega) (by omega) hq0.2.1 hz_1 rfl
set_option maxHeartbeats 4000000 in
set_option maxRecDepth 100000 in
theorem c_X10_either4 (l : Launch) (g : jG) (a : Nat → Nat) (x : mS)  (b : Nat → Int32) (n t : Nat) (p : Nat) (hrb : rbM x b n t) (hop : x.1 0 23 = nI 4) (hst : stM x b n (psS b n p)) (hp : p ≤ n) : Ci l g yX10_either4 cX10_either4 3 .int 15 333 0 0 (mW g a) [.ref (a 0)] x (fun r z => ocM x z b n 4 (orL (tcS b n) (tnS b n) 1 p []) r) := by
  refine mk_i (by decide +kernel) rfl (fun KK hKl hKg C hin hret => ?_)
  subst hKl; subst hKg
  refine j_lv (lv' := [(0, _)]) rfl ?_
  have hgf := (lvS_gd (tc := tcS b n) (tn := tnS b n) (N := n) tc_n 1).2.2.2.2.2
  have hho := (lvS_ho (tc := tcS b n) (tn := tnS b n) 1).2.2.2.2.2
  refine j_aload_n C dX10_either4_0 rfl rfl ?_
  refine j_calliv C (c_X10_both4 _ _ _ _  b n t p hrb hop hst hp) dX10_either4_1 jm_RX10_233 ⟨_, _, _, _, wO mO, rfl, rfl⟩ ⟨by decide, by decide, by decide, by decide⟩ rfl (Nat.le_of_ble_eq_true rfl) (fun r_1 z_1 hz_1 => ?_)
  skip
  refine j_istore_n (lv' := [(1, _), (0, _)]) C dX10_either4_4 rfl (by decide) rfl ?_
  have L_5 : ∀ k : Nat, ∀ (i : Nat) (R : PS) (x' : mS) (v : Int32), i ≤ 160 → 160 < i + k → i ≤ R.2.1 → R.2.1 ≤ n → ocM x x' b n 4 R v → (lpS (tcS b n) okO (anL (tcS b n) (tnS b n) 1) 160 ((anL (tcS b n) (tnS b n) 1) p []) = lpS (tcS b n) okO (anL (tcS b n) (tnS b n) 1) (160 - i) R) → J KK (mW (kG KK) a) 0 0 x' [(0, .ref (a 0)), (1, .int v)] 5 [] := by
    intro k
    induction k with
    | zero => intro i R x' v h1 hk hi hR hoc hL; omega
    | succ k ih =>
      intro i R x' v h1 hk hi hR hoc hL
      have hrb' := rbM_m hrb hoc.1
      have hS' := oc_S hrb hoc
      refine j_aload_n C dX10_either4_5 rfl rfl ?_
      refine j_bipush (v := 111) C dX10_either4_6 rfl ?_
      refine j_bipush (v := 114) C dX10_either4_8 rfl ?_
      refine j_iconst (v := 0) C dX10_either4_10 rfl ?_
      refine j_iconst (v := 0) C dX10_either4_11 rfl ?_
      refine j_iconst (v := 0) C dX10_either4_12 rfl ?_
      refine j_iconst (v := 0) C dX10_either4_13 rfl ?_
      refine j_iconst (v := 0) C dX10_either4_14 rfl ?_
      refine j_iconst (v := 0) C dX10_either4_15 rfl ?_
      refine j_calliv C (c_X10_isWord _ _ _ _ _ _ _ _ _ _ _ _ 10 (by decide) rfl rfl rfl rfl rfl rfl rfl rfl b n t R.2.1 hS') dX10_either4_16 jm_RX10_166 ⟨_, _, _, _, wO mO, rfl, rfl⟩ ⟨by decide, by decide, by decide, by decide⟩ rfl (Nat.le_of_ble_eq_true rfl) (fun r z hz => ?_)
      obtain ⟨hb, hz⟩ := hz; have hz := hz.symm; subst hz
      rcases hb with ⟨rfl, b_16⟩ | ⟨rfl, b_16⟩
      · skip
        obtain ⟨hR1, hst', hvl⟩ := oc_1 hoc b_16.1
        have htc : tcS b n R.2.1 = 10 := b_16.2
        have h14 : ¬ tcS b n R.2.1 = 14 := by rw [htc]; decide
        have h15 : ¬ tcS b n R.2.1 = 15 := by rw [htc]; decide
        have hlt : R.2.1 < n := lt_tc h14
        have hn160 := hrb.2.2.2.1
        obtain ⟨m, hm⟩ : ∃ m, 160 - i = m + 1 := ⟨159 - i, by omega⟩
        refine j_if_eq (tgt := 48) C dX10_either4_19 (by decide) (fun c => absurd c (by decide)) (fun _ => ?_)
        refine j_aload_n C dX10_either4_22 rfl rfl ?_
        refine j_callvv C (c_X10_next _ _ _ _  b n t (tkE b n (psS b n R.2.1)) hrb' (hst'.2.2.2.2.1.trans (congrArg nI (hr_ok h14 h15).1)) (tkE_gt (hr_ok h14 h15).2.1).2) dX10_either4_23 jm_RX10_163 ⟨_, _, _, _, wO mO, rfl, rfl⟩ ⟨by decide, by decide, by decide, by decide⟩ rfl (Nat.le_of_ble_eq_true rfl) (fun z_23 hz_23 => ?_)
        obtain ⟨hn_23, ht_23⟩ := hz_23
        rw [(hr_ok h14 h15).2.2] at ht_23
        have hst2 : stM z_23 b n (psS b n (R.2.1 + 1)) := ⟨(hn_23.2 24 (by decide)).trans hst'.1, ht_23⟩
        have hF2 : mF x z_23 := mF_t hoc.1 (nxF_m hn_23)
        have hO2 : z_23.1 0 23 = nI 4 := (hn_23.2 23 (by decide)).trans hoc.2.1
        refine j_aload_n C dX10_either4_26 rfl rfl ?_
        refine j_calliv C (c_X10_both4 _ _ _ _  b n t (R.2.1 + 1) (rbM_m hrb hF2) hO2 hst2 hlt) dX10_either4_27 jm_RX10_233 ⟨_, _, _, _, wO mO, rfl, rfl⟩ ⟨by decide, by decide, by decide, by decide⟩ rfl (Nat.le_of_ble_eq_true rfl) (fun r_27 z_27 hz_27 => ?_)
        skip
        refine j_istore_n (lv' := [(2, _), (0, _), (1, _)]) C dX10_either4_30 rfl (by decide) rfl ?_
        refine j_iload_n C dX10_either4_31 rfl rfl ?_
        refine j_if_ne (tgt := 39) C dX10_either4_32 (by decide) (fun c_32 => ?_) (fun c_32 => ?_)
        · skip
          refine j_iconst (v := 1) C dX10_either4_39 rfl ?_
          refine j_goto (tgt := 44) C dX10_either4_40 (by decide) ?_
          refine j_istore_n (lv' := [(1, _), (2, _), (0, _)]) C dX10_either4_44 rfl (by decide) rfl ?_
          refine j_goto (tgt := 5) C dX10_either4_45 (by decide) ?_
          refine j_lv (lv' := [(0, _), (1, _)]) rfl ?_
          have hst9 : stM z_23 b n (psS b n (R.2.1 + 1)) := hst2
          exact ih (i + 1) (((anL (tcS b n) (tnS b n) 1) (R.2.1 + 1) R.2.2).1, ((anL (tcS b n) (tnS b n) 1) (R.2.1 + 1) R.2.2).2.1, ((anL (tcS b n) (tnS b n) 1) (R.2.1 + 1) R.2.2).2.2 ++ [-(tcS b n R.2.1)]) _ _ (by omega) (by omega) (by have := hgf (R.2.1 + 1) R.2.2 hlt; show i + 1 ≤ ((anL (tcS b n) (tnS b n) 1) (R.2.1 + 1) R.2.2).2.1; omega) (hgf (R.2.1 + 1) R.2.2 hlt).2.1 (oc_lp (10) _ hho htc hF2 hvl hz_27 (by decide) (by decide) (by decide) (by decide) (by decide) (by rw [jn_10]; first | exact if_neg (fun h => c_32 h.1) | exact if_neg (fun h => c_36 h.2))) (by
            rw [hm, lpS_y ⟨hR1, by rw [htc]; rfl⟩] at hL
            rw [hL, show 160 - (i + 1) = m by omega])
        · skip
          refine j_iload_n C dX10_either4_35 rfl rfl ?_
          refine j_if_eq (tgt := 43) C dX10_either4_36 (by decide) (fun c_36 => ?_) (fun c_36 => ?_)
          · skip
            refine j_iconst (v := 0) C dX10_either4_43 rfl ?_
            refine j_istore_n (lv' := [(1, _), (2, _), (0, _)]) C dX10_either4_44 rfl (by decide) rfl ?_
            refine j_goto (tgt := 5) C dX10_either4_45 (by decide) ?_
            refine j_lv (lv' := [(0, _), (1, _)]) rfl ?_
            have hst9 : stM z_23 b n (psS b n (R.2.1 + 1)) := hst2
            exact ih (i + 1) (((anL (tcS b n) (tnS b n) 1) (R.2.1 + 1) R.2.2).1, ((anL (tcS b n) (tnS b n) 1) (R.2.1 + 1) R.2.2).2.1, ((anL (tcS b n) (tnS b n) 1) (R.2.1 + 1) R.2.2).2.2 ++ [-(tcS b n R.2.1)]) _ _ (by omega) (by omega) (by have := hgf (R.2.1 + 1) R.2.2 hlt; show i + 1 ≤ ((anL (tcS b n) (tnS b n) 1) (R.2.1 + 1) R.2.2).2.1; omega) (hgf (R.2.1 + 1) R.2.2 hlt).2.1 (oc_lp (10) _ hho htc hF2 hvl hz_27 (by decide) (by decide) (by decide) (by decide) (by decide) (by rw [jn_10]; exact if_pos ⟨c_32, c_36⟩)) (by
              rw [hm, lpS_y ⟨hR1, by rw [htc]; rfl⟩] at hL
              rw [hL, show 160 - (i + 1) = m by omega])
          · skip
            refine j_iconst (v := 1) C dX10_either4_39 rfl ?_
            refine j_goto (tgt := 44) C dX10_either4_40 (by decide) ?_
            refine j_istore_n (lv' := [(1, _), (2, _), (0, _)]) C dX10_either4_44 rfl (by decide) rfl ?_
            refine j_goto (tgt := 5) C dX10_either4_45 (by decide) ?_
            refine j_lv (lv' := [(0, _), (1, _)]) rfl ?_
            have hst9 : stM z_23 b n (psS b n (R.2.1 + 1)) := hst2
            exact ih (i + 1) (((anL (tcS b n) (tnS b n) 1) (R.2.1 + 1) R.2.2).1, ((anL (tcS b n) (tnS b n) 1) (R.2.1 + 1) R.2.2).2.1, ((anL (tcS b n) (tnS b n) 1) (R.2.1 + 1) R.2.2).2.2 ++ [-(tcS b n R.2.1)]) _ _ (by omega) (by omega) (by have := hgf (R.2.1 + 1) R.2.2 hlt; show i + 1 ≤ ((anL (tcS b n) (tnS b n) 1) (R.2.1 + 1) R.2.2).2.1; omega) (hgf (R.2.1 + 1) R.2.2 hlt).2.1 (oc_lp (10) _ hho htc hF2 hvl hz_27 (by decide) (by decide) (by decide) (by decide) (by decide) (by rw [jn_10]; first | exact if_neg (fun h => c_32 h.1) | exact if_neg (fun h => c_36 h.2))) (by
              rw [hm, lpS_y ⟨hR1, by rw [htc]; rfl⟩] at hL
              rw [hL, show 160 - (i + 1) = m by omega])
      · skip
        have hend : lpS (tcS b n) okO (anL (tcS b n) (tnS b n) 1) (160 - i) R = R := lpS_n (fun h => by
          have h2 := h.2
          simp only [okO, Bool.or_eq_true, beq_iff_eq] at h2
          exact b_16 ⟨oc_0 hoc h.1, h2⟩)
        refine j_if_eq (tgt := 48) C dX10_either4_19 (by decide) (fun _ => ?_) (fun c => absurd (by decide) c)
        refine j_iload_n C dX10_either4_48 rfl rfl ?_
        refine hret _ _ _ _ dX10_either4_49 rfl ?_
        have e9 : orL (tcS b n) (tnS b n) 1 p [] = R := by
          rw [orL_e]
          show lpS (tcS b n) okO (anL (tcS b n) (tnS b n) 1) 160 ((anL (tcS b n) (tnS b n) 1) p []) = R
          rw [hL, hend]
        rw [e9]; exact hoc
  refine j_lv (lv' := [(0, _), (1, _)]) rfl ?_
  have hq0 := hgf p [] hp
  exact L_5 161 0 ((anL (tcS b n) (tnS b n) 1) p []) _ _ (by omega) (by omega) (by omega) hq0.2.1 hz_1 rfl
