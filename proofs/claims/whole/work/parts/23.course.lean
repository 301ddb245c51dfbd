set_option maxHeartbeats 4000000 in
set_option maxRecDepth 100000 in
theorem c_X0_whereOn (l : Launch) (g : jG) (a : Nat → Nat) (M : (Nat → Nat → Int32)) (p : Int32) (q : Nat) (hp : p = nI q) (hq : q < 30) : Ci l g yX0_whereOn cX0_whereOn 2 .int 0 0 0 0 (cW g a) [.ref (a 20), .int p] M (fun r z => r = M 21 q ∧ z = M) := by
  refine mk_i (by decide +kernel) rfl (fun KK hKl hKg C hin hret => ?_)
  subst hKl; subst hKg
  refine j_lv (lv' := [(0, _), (1, _)]) rfl ?_
  subst hp
  refine j_iload_n C dX0_whereOn_0 rfl rfl ?_
  refine j_if_lt (tgt := 22) C dX0_whereOn_1 (by decide) (fun c_1 => ?_) (fun c_1 => ?_)
  · skip
    exact absurd c_1 (nI_pos (by omega))
  · skip
    refine j_iload_n C dX0_whereOn_4 rfl rfl ?_
    refine j_aload_n C dX0_whereOn_5 rfl rfl ?_
    refine j_get C dX0_whereOn_6 jf_RX0_9 (wO cCo) rfl ?_
    refine j_alen (v := 30) C dX0_whereOn_9 (wA cA21) gty_0 rfl ?_
    refine j_icmp_ge (tgt := 22) C dX0_whereOn_10 (by decide) (fun c_2 => ?_) (fun c_2 => ?_)
    · skip
      exact absurd c_2 (nI_ge hq (by decide))
    · skip
      refine j_aload_n C dX0_whereOn_13 rfl rfl ?_
      refine j_get C dX0_whereOn_14 jf_RX0_9 (wO cCo) rfl ?_
      refine j_iload_n C dX0_whereOn_17 rfl rfl ?_
      refine j_iald C (q) dX0_whereOn_18 (wA cA21) (rfl) (hq) (by decide) ?_
      refine j_goto (tgt := 23) C dX0_whereOn_19 (by decide) ?_
      refine hret _ _ _ _ dX0_whereOn_23 rfl ?_
      exact ⟨rfl, rfl⟩
set_option maxHeartbeats 4000000 in
set_option maxRecDepth 100000 in
theorem c_X0_likelyOn (l : Launch) (g : jG) (a : Nat → Nat) (M : (Nat → Nat → Int32)) (p : Int32) (q : Nat) (hp : p = nI q) (hq : q < 30) : Ci l g yX0_likelyOn cX0_likelyOn 2 .int 0 0 0 0 (cW g a) [.ref (a 20), .int p] M (fun r z => r = M 23 q ∧ z = M) := by
  refine mk_i (by decide +kernel) rfl (fun KK hKl hKg C hin hret => ?_)
  subst hKl; subst hKg
  refine j_lv (lv' := [(0, _), (1, _)]) rfl ?_
  subst hp
  refine j_iload_n C dX0_likelyOn_0 rfl rfl ?_
  refine j_if_lt (tgt := 22) C dX0_likelyOn_1 (by decide) (fun c_1 => ?_) (fun c_1 => ?_)
  · skip
    exact absurd c_1 (nI_pos (by omega))
  · skip
    refine j_iload_n C dX0_likelyOn_4 rfl rfl ?_
    refine j_aload_n C dX0_likelyOn_5 rfl rfl ?_
    refine j_get C dX0_likelyOn_6 jf_RX0_18 (wO cCo) rfl ?_
    refine j_alen (v := 30) C dX0_likelyOn_9 (wA cA23) gty_0 rfl ?_
    refine j_icmp_ge (tgt := 22) C dX0_likelyOn_10 (by decide) (fun c_2 => ?_) (fun c_2 => ?_)
    · skip
      exact absurd c_2 (nI_ge hq (by decide))
    · skip
      refine j_aload_n C dX0_likelyOn_13 rfl rfl ?_
      refine j_get C dX0_likelyOn_14 jf_RX0_18 (wO cCo) rfl ?_
      refine j_iload_n C dX0_likelyOn_17 rfl rfl ?_
      refine j_iald C (q) dX0_likelyOn_18 (wA cA23) (rfl) (hq) (by decide) ?_
      refine j_goto (tgt := 23) C dX0_likelyOn_19 (by decide) ?_
      refine hret _ _ _ _ dX0_likelyOn_23 rfl ?_
      exact ⟨rfl, rfl⟩
set_option maxHeartbeats 4000000 in
set_option maxRecDepth 100000 in
theorem c_X0_follow (l : Launch) (g : jG) (a : Nat → Nat) (M : (Nat → Nat → Int32)) (K : Nat) (hK : isTx K) (G : Nat) (hG : isGl G) (f : Int32) (T : Nat → List Int32) (hT : txR M K T) : Cv l g yX0_follow cX0_follow 8 3 69 0 0 (cW g a) [.ref (a 20), .ref (a K), .ref (a G), .int f] M (fun z => (∀ k, k ≠ 21 → k ≠ 24 → k ≠ 25 → z k = M k) ∧ ∀ d, d < 30 → z 21 d = whS T (M G) f d) := by
  refine mk_v (by decide +kernel) rfl (fun KK hKl hKg C hin hret => ?_)
  subst hKl; subst hKg
  refine j_lv (lv' := [(0, _), (1, _), (2, _), (3, _)]) rfl ?_
  have hG5 := Gl24 hG; have hK5 := Tx24 hK; have hla : laS (M G) = laS (M G) := rfl
  refine j_aload_n C dX0_follow_0 rfl rfl ?_
  refine j_calliv C (c_X1_lasts _ _ _ _ G hG ) dX0_follow_1 jm_RX0_28 ⟨_, _, _, _, wO (cGl hG), rfl, rfl⟩ ⟨by decide, by decide, by decide, by decide⟩ rfl (Nat.le_of_ble_eq_true rfl) (fun r z hz => ?_)
  obtain ⟨hr, hz⟩ := hz; have hr := hr.symm; have hz := hz.symm; subst hr; subst hz
  refine j_istore (lv' := [(4, _), (0, _), (1, _), (2, _), (3, _)]) C dX0_follow_4 (by decide) rfl ?_
  refine j_aload_n C dX0_follow_6 rfl rfl ?_
  refine j_get C dX0_follow_7 jf_RX0_34 (wO (cGl hG)) rfl ?_
  refine j_istore (lv' := [(5, _), (4, _), (0, _), (1, _), (2, _), (3, _)]) C dX0_follow_10 (by decide) rfl ?_
  refine j_iconst (v := 0) C dX0_follow_12 rfl ?_
  refine j_istore (lv' := [(6, _), (5, _), (4, _), (0, _), (1, _), (2, _), (3, _)]) C dX0_follow_13 (by decide) rfl ?_
  have L_15 : ∀ k : Nat, ∀ (i : Nat) (M' : Nat → Nat → Int32) (p : Int32), i ≤ 30 → 30 < i + k → (∀ k, k ≠ 21 → k ≠ 24 → k ≠ 25 → M' k = M k) → (∀ d, d < i → M' 21 d = whS T (M G) f d) → (nI i ≤ laS (M G) → p = plS T (M G) f i) → J KK (cW (kG KK) a) 0 0 M' [(0, .ref (a 20)), (1, .ref (a K)), (2, .ref (a G)), (3, .int f), (4, .int (laS (M G))), (5, .int p), (6, .int (nI i))] 15 [] := by
    intro k
    induction k with
    | zero => intro i M' p h1 hk hF hW hp; omega
    | succ k ih =>
      intro i M' p h1 hk hF hW hp
      have e_i : (nI i).toInt = i := nI_toInt (by omega)
      refine j_iload C dX0_follow_15 rfl ?_
      refine j_aload_n C dX0_follow_17 rfl rfl ?_
      refine j_get C dX0_follow_18 jf_RX0_9 (wO cCo) rfl ?_
      refine j_alen (v := 30) C dX0_follow_21 (wA cA21) gty_0 rfl ?_
      refine j_icmp_ge (tgt := 106) C dX0_follow_22 (by decide) (fun c_1 => ?_) (fun c_1 => ?_)
      · skip
        have hi : i = 30 := by simp only [Int32.lt_iff_toInt_lt, Int32.le_iff_toInt_le, ← Int32.toInt_inj, Int32.reduceToInt, e_i] at c_1; omega
        subst hi
        refine hret _ _ _ dX0_follow_106 ?_
        exact ⟨hF, hW⟩
      · skip
        have hi : i < 30 := by simp only [Int32.lt_iff_toInt_lt, Int32.le_iff_toInt_le, ← Int32.toInt_inj, Int32.reduceToInt, e_i] at c_1; omega
        have e_i1 : (nI (i + 1)).toInt = (i : Int) + 1 := by rw [nI_toInt (by omega)]; simp
        refine j_iload C dX0_follow_25 rfl ?_
        refine j_iload C dX0_follow_27 rfl ?_
        refine j_icmp_lt (tgt := 43) C dX0_follow_29 (by decide) (fun c_2 => ?_) (fun c_2 => ?_)
        · skip
          have hng : ¬ laS (M G) ≤ nI i := by simp only [Int32.lt_iff_toInt_lt, Int32.le_iff_toInt_le, ← Int32.toInt_inj, Int32.reduceToInt] at c_2 ⊢; omega
          have hlt : nI i ≤ laS (M G) := by simp only [Int32.lt_iff_toInt_lt, Int32.le_iff_toInt_le, ← Int32.toInt_inj, Int32.reduceToInt] at c_2 ⊢; omega
          refine j_aload_n C dX0_follow_43 rfl rfl ?_
          refine j_get C dX0_follow_44 jf_RX0_9 (wO cCo) rfl ?_
          refine j_iload C dX0_follow_47 rfl ?_
          refine j_iload C dX0_follow_49 rfl ?_
          refine j_iast C (i) dX0_follow_51 (wA cA21) (rfl) (hi) (by decide) (sA cA21 _ _) ?_
          refine j_aload_n C dX0_follow_52 rfl rfl ?_
          refine j_get C dX0_follow_53 jf_RX0_24 (wO cCo) rfl ?_
          refine j_aload_n C dX0_follow_56 rfl rfl ?_
          refine j_iload C dX0_follow_57 rfl ?_
          refine j_iload C dX0_follow_59 rfl ?_
          refine j_iload_n C dX0_follow_61 rfl rfl ?_
          refine j_callvv C (c_X4_lookAt _ _ _ _ G hG _ _ _ ) dX0_follow_62 jm_RX0_38 ⟨_, _, _, _, wO cRk, rfl, rfl⟩ ⟨by decide, by decide, by decide, by decide⟩ rfl (Nat.le_of_ble_eq_true rfl) (fun z_62 hz_62 => ?_)
          obtain ⟨zf_62, ze_62⟩ := hz_62
          have hT9 : txR z_62 K T := txR_c hT (by rw [zf_62 _ (by omega), uM_ne (by omega)]; exact hF _ (by omega) (by omega) (by omega)) (by rw [zf_62 _ (by omega), uM_ne (by omega)]; exact hF _ (by omega) (by omega) (by omega))
          have he9 : ∀ j, 2 ≤ j → j < 8 → z_62 24 j = enS (M G) (plS T (M G) f i) (nI i) f j := fun j a b => by
            rw [ze_62 j a b, uM_ne hG5.2.2.1, hF G hG5.2.2.1 hG5.1 hG5.2.1, hp hlt]
          refine j_aload_n C dX0_follow_65 rfl rfl ?_
          refine j_get C dX0_follow_66 jf_RX0_24 (wO cCo) rfl ?_
          refine j_aload_n C dX0_follow_69 rfl rfl ?_
          refine j_iconst (v := 1) C dX0_follow_70 rfl ?_
          refine j_calliv C (c_X4_reckon _ _ _ _ K hK _ 1 rfl (by decide) T hT9 (enS (M G) (plS T (M G) f i) (nI i) f) he9) dX0_follow_71 jm_RX0_42 ⟨_, _, _, _, wO cRk, rfl, rfl⟩ ⟨by decide, by decide, by decide, by decide⟩ rfl (Nat.le_of_ble_eq_true rfl) (fun r_71 z_71 hz_71 => ?_)
          obtain ⟨hr, zf_71⟩ := hz_71; have hr := hr.symm; subst hr
          refine j_bipush (v := -19) C dX0_follow_74 rfl ?_
          refine j_bipush (v := 19) C dX0_follow_76 rfl ?_
          refine j_callisN C (c_X9_within _ _ _ _ _ _ _ (by decide)) dX0_follow_78 jmn_RX0_46 ⟨by decide, by decide, by decide, by decide⟩ rfl (Nat.le_of_ble_eq_true rfl) (fun r z hz => ?_)
          obtain ⟨hr, hz⟩ := hz; have hr := hr.symm; have hz := hz.symm; subst hr; subst hz
          refine j_istore (lv' := [(7, _), (0, _), (1, _), (2, _), (3, _), (4, _), (5, _), (6, _)]) C dX0_follow_81 (by decide) rfl ?_
          refine j_iload C dX0_follow_83 rfl ?_
          refine j_aload_n C dX0_follow_85 rfl rfl ?_
          refine j_iload C dX0_follow_86 rfl ?_
          refine j_calliv C (c_X1_moving _ _ _ _ G hG _ ) dX0_follow_88 jm_RX0_50 ⟨_, _, _, _, wO (cGl hG), rfl, rfl⟩ ⟨by decide, by decide, by decide, by decide⟩ rfl (Nat.le_of_ble_eq_true rfl) (fun r z hz => ?_)
          obtain ⟨hr, hz⟩ := hz; have hr := hr.symm; have hz := hz.symm; subst hr; subst hz
          refine j_iadd C dX0_follow_91 ?_
          refine j_iconst (v := 0) C dX0_follow_92 rfl ?_
          refine j_bipush (v := 19) C dX0_follow_93 rfl ?_
          refine j_callisN C (c_X9_within _ _ _ _ _ _ _ (by decide)) dX0_follow_95 jmn_RX0_46 ⟨by decide, by decide, by decide, by decide⟩ rfl (Nat.le_of_ble_eq_true rfl) (fun r z hz => ?_)
          obtain ⟨hr, hz⟩ := hz; have hr := hr.symm; have hz := hz.symm; subst hr; subst hz
          refine j_istore (lv' := [(5, _), (7, _), (0, _), (1, _), (2, _), (3, _), (4, _), (6, _)]) C dX0_follow_98 (by decide) rfl ?_
          refine j_iinc (lv' := [(6, _), (5, _), (7, _), (0, _), (1, _), (2, _), (3, _), (4, _)]) (v := nI (i + 1)) C dX0_follow_100 rfl (j_inc1 i) (by decide) rfl ?_
          refine j_goto (tgt := 15) C dX0_follow_103 (by decide) ?_
          refine j_lv (lv' := [(0, _), (1, _), (2, _), (3, _), (4, _), (5, _), (6, _)]) rfl ?_
          first
            | (refine ih (i + 1) _ _ (by omega) (by omega) (fun k a b c => by rw [zf_71.1 k b c, zf_62 k b, uM_ne a]; exact hF k a b c) (fun d hd => ?_) (fun _ => ?_)
               · rw [zf_71.1 21 (by decide) (by decide), zf_62 21 (by decide)]
                 by_cases h : d = i
                 · subst h; rw [uM_s, hp hlt, whS, if_neg hng]
                 · rw [uM_n h]; exact hW d (by omega)
               · rw [hp hlt, zf_71.1 G hG5.1 hG5.2.1, zf_62 G hG5.1, uM_ne hG5.2.2.1, hF G hG5.2.2.1 hG5.1 hG5.2.1]; rfl)
            | (refine ih (i + 1) _ p (by omega) (by omega) (fun k a b c => by rw [uM_ne a]; exact hF k a b c) (fun d hd => ?_) (fun h => absurd h hgone)
               by_cases h : d = i
               · subst h; rw [uM_s, whS, if_pos hge]
               · rw [uM_n h]; exact hW d (by omega))
        · skip
          have hge : laS (M G) ≤ nI i := by simp only [Int32.lt_iff_toInt_lt, Int32.le_iff_toInt_le, ← Int32.toInt_inj, Int32.reduceToInt] at c_2 ⊢; omega
          have hgone : ¬ nI (i + 1) ≤ laS (M G) := by simp only [Int32.lt_iff_toInt_lt, Int32.le_iff_toInt_le, ← Int32.toInt_inj, Int32.reduceToInt, e_i, e_i1] at hge ⊢; omega
          refine j_aload_n C dX0_follow_32 rfl rfl ?_
          refine j_get C dX0_follow_33 jf_RX0_9 (wO cCo) rfl ?_
          refine j_iload C dX0_follow_36 rfl ?_
          refine j_iconst (v := -1) C dX0_follow_38 rfl ?_
          refine j_iast C (i) dX0_follow_39 (wA cA21) (rfl) (hi) (by decide) (sA cA21 _ _) ?_
          refine j_goto (tgt := 100) C dX0_follow_40 (by decide) ?_
          refine j_iinc (lv' := [(6, _), (0, _), (1, _), (2, _), (3, _), (4, _), (5, _)]) (v := nI (i + 1)) C dX0_follow_100 rfl (j_inc1 i) (by decide) rfl ?_
          refine j_goto (tgt := 15) C dX0_follow_103 (by decide) ?_
          refine j_lv (lv' := [(0, _), (1, _), (2, _), (3, _), (4, _), (5, _), (6, _)]) rfl ?_
          first
            | (refine ih (i + 1) _ _ (by omega) (by omega) (fun k a b c => by rw [zf_71.1 k b c, zf_62 k b, uM_ne a]; exact hF k a b c) (fun d hd => ?_) (fun _ => ?_)
               · rw [zf_71.1 21 (by decide) (by decide), zf_62 21 (by decide)]
                 by_cases h : d = i
                 · subst h; rw [uM_s, hp hlt, whS, if_neg hng]
                 · rw [uM_n h]; exact hW d (by omega)
               · rw [hp hlt, zf_71.1 G hG5.1 hG5.2.1, zf_62 G hG5.1, uM_ne hG5.2.2.1, hF G hG5.2.2.1 hG5.1 hG5.2.1]; rfl)
            | (refine ih (i + 1) _ p (by omega) (by omega) (fun k a b c => by rw [uM_ne a]; exact hF k a b c) (fun d hd => ?_) (fun h => absurd h hgone)
               by_cases h : d = i
               · subst h; rw [uM_s, whS, if_pos hge]
               · rw [uM_n h]; exact hW d (by omega))
  refine j_lv (lv' := [(0, _), (1, _), (2, _), (3, _), (4, _), (5, _), (6, _)]) rfl ?_
  exact L_15 31 0 _ _ (by omega) (by omega) (fun _ _ _ _ => rfl) (fun d h => absurd h (by omega)) (fun _ => rfl)
set_option maxHeartbeats 4000000 in
set_option maxRecDepth 100000 in
theorem c_X0_ask (l : Launch) (g : jG) (a : Nat → Nat) (M : (Nat → Nat → Int32)) (K : Nat) (hK : isTx K) (G : Nat) (hG : isGl G) (f : Int32) (T : Nat → List Int32) (hT : txR M K T) (w : Nat → Int32) (hw : ∀ d, d < 30 → M 21 d = w d) : Cv l g yX0_ask cX0_ask 6 3 69 0 0 (cW g a) [.ref (a 20), .ref (a K), .ref (a G), .int f] M (fun z => (∀ k, k ≠ 22 → k ≠ 24 → k ≠ 25 → z k = M k) ∧ ∀ d, d < 30 → z 22 d = if w d = -1 then 0 else toS T (M G) f (w d) d) := by
  refine mk_v (by decide +kernel) rfl (fun KK hKl hKg C hin hret => ?_)
  subst hKl; subst hKg
  refine j_lv (lv' := [(0, _), (1, _), (2, _), (3, _)]) rfl ?_
  have hG5 := Gl24 hG; have hK5 := Tx24 hK
  refine j_iconst (v := 0) C dX0_ask_0 rfl ?_
  refine j_istore (lv' := [(4, _), (0, _), (1, _), (2, _), (3, _)]) C dX0_ask_1 (by decide) rfl ?_
  have L_3 : ∀ k : Nat, ∀ (i : Nat) (M' : Nat → Nat → Int32), i ≤ 30 → 30 < i + k → (∀ k, k ≠ 22 → k ≠ 24 → k ≠ 25 → M' k = M k) → (∀ d, d < i → M' 22 d = if w d = -1 then 0 else toS T (M G) f (w d) d) → J KK (cW (kG KK) a) 0 0 M' [(0, .ref (a 20)), (1, .ref (a K)), (2, .ref (a G)), (3, .int f), (4, .int (nI i))] 3 [] := by
    intro k
    induction k with
    | zero => intro i M' h1 hk hF hW; omega
    | succ k ih =>
      intro i M' h1 hk hF hW
      have e_i : (nI i).toInt = i := nI_toInt (by omega)
      refine j_iload C dX0_ask_3 rfl ?_
      refine j_aload_n C dX0_ask_5 rfl rfl ?_
      refine j_get C dX0_ask_6 jf_RX0_15 (wO cCo) rfl ?_
      refine j_alen (v := 30) C dX0_ask_9 (wA cA22) gty_0 rfl ?_
      refine j_icmp_ge (tgt := 79) C dX0_ask_10 (by decide) (fun c_1 => ?_) (fun c_1 => ?_)
      · skip
        have hi : i = 30 := by simp only [Int32.lt_iff_toInt_lt, Int32.le_iff_toInt_le, ← Int32.toInt_inj, Int32.reduceToInt, e_i] at c_1; omega
        subst hi
        refine hret _ _ _ dX0_ask_79 ?_
        exact ⟨hF, hW⟩
      · skip
        have hi : i < 30 := by simp only [Int32.lt_iff_toInt_lt, Int32.le_iff_toInt_le, ← Int32.toInt_inj, Int32.reduceToInt, e_i] at c_1; omega
        refine j_aload_n C dX0_ask_13 rfl rfl ?_
        refine j_iload C dX0_ask_14 rfl ?_
        refine j_calliv C (c_X0_whereOn _ _ _ _ _ i rfl hi) dX0_ask_16 jm_RX0_54 ⟨_, _, _, _, wO cCo, rfl, rfl⟩ ⟨by decide, by decide, by decide, by decide⟩ rfl (Nat.le_of_ble_eq_true rfl) (fun r_16 z_16 hz_16 => ?_)
        obtain ⟨hr, hz⟩ := hz_16; rw [hF 21 (by decide) (by decide) (by decide), hw i hi] at hr; have hr := hr.symm; have hz := hz.symm; subst hr; subst hz
        refine j_istore (lv' := [(5, _), (0, _), (1, _), (2, _), (3, _), (4, _)]) C dX0_ask_19 (by decide) rfl ?_
        refine j_iload C dX0_ask_21 rfl ?_
        refine j_iconst (v := -1) C dX0_ask_23 rfl ?_
        refine j_icmp_ne (tgt := 38) C dX0_ask_24 (by decide) (fun c_2 => ?_) (fun c_2 => ?_)
        · skip
          have hne : ¬ w i = -1 := c_2
          refine j_aload_n C dX0_ask_38 rfl rfl ?_
          refine j_get C dX0_ask_39 jf_RX0_24 (wO cCo) rfl ?_
          refine j_aload_n C dX0_ask_42 rfl rfl ?_
          refine j_iload C dX0_ask_43 rfl ?_
          refine j_iload C dX0_ask_45 rfl ?_
          refine j_iload_n C dX0_ask_47 rfl rfl ?_
          refine j_callvv C (c_X4_lookAt _ _ _ _ G hG _ _ _ ) dX0_ask_48 jm_RX0_38 ⟨_, _, _, _, wO cRk, rfl, rfl⟩ ⟨by decide, by decide, by decide, by decide⟩ rfl (Nat.le_of_ble_eq_true rfl) (fun z_48 hz_48 => ?_)
          obtain ⟨zf_48, ze_48⟩ := hz_48
          refine j_aload_n C dX0_ask_51 rfl rfl ?_
          refine j_get C dX0_ask_52 jf_RX0_15 (wO cCo) rfl ?_
          refine j_iload C dX0_ask_55 rfl ?_
          have hT9 : txR z_48 K T := txR_c hT (by rw [zf_48 _ (by omega)]; exact hF _ (by omega) (by omega) (by omega)) (by rw [zf_48 _ (by omega)]; exact hF _ (by omega) (by omega) (by omega))
          have he9 : ∀ j, 2 ≤ j → j < 8 → z_48 24 j = enS (M G) (w i) (nI i) f j := fun j a b => by
            rw [ze_48 j a b, hF G hG5.2.2.2.1 hG5.1 hG5.2.1]
          refine j_aload_n C dX0_ask_57 rfl rfl ?_
          refine j_get C dX0_ask_58 jf_RX0_24 (wO cCo) rfl ?_
          refine j_aload_n C dX0_ask_61 rfl rfl ?_
          refine j_iconst (v := 0) C dX0_ask_62 rfl ?_
          refine j_calliv C (c_X4_reckon _ _ _ _ K hK _ 0 rfl (by decide) T hT9 (enS (M G) (w i) (nI i) f) he9) dX0_ask_63 jm_RX0_42 ⟨_, _, _, _, wO cRk, rfl, rfl⟩ ⟨by decide, by decide, by decide, by decide⟩ rfl (Nat.le_of_ble_eq_true rfl) (fun r_63 z_63 hz_63 => ?_)
          obtain ⟨hr, zf_63⟩ := hz_63; have hr := hr.symm; subst hr
          refine j_iconst (v := 0) C dX0_ask_66 rfl ?_
          refine j_bipush (v := 100) C dX0_ask_67 rfl ?_
          refine j_callisN C (c_X9_within _ _ _ _ _ _ _ (by decide)) dX0_ask_69 jmn_RX0_46 ⟨by decide, by decide, by decide, by decide⟩ rfl (Nat.le_of_ble_eq_true rfl) (fun r z hz => ?_)
          obtain ⟨hr, hz⟩ := hz; have hr := hr.symm; have hz := hz.symm; subst hr; subst hz
          refine j_iast C (i) dX0_ask_72 (wA cA22) (rfl) (hi) (by decide) (sA cA22 _ _) ?_
          refine j_iinc (lv' := [(4, _), (5, _), (0, _), (1, _), (2, _), (3, _)]) (v := nI (i + 1)) C dX0_ask_73 rfl (j_inc1 i) (by decide) rfl ?_
          refine j_goto (tgt := 3) C dX0_ask_76 (by decide) ?_
          refine j_lv (lv' := [(0, _), (1, _), (2, _), (3, _), (4, _)]) rfl ?_
          first
            | (refine ih (i + 1) _ (by omega) (by omega) (fun k a b c => by rw [uM_ne a, zf_63.1 k b c, zf_48 k b]; exact hF k a b c) (fun d hd => ?_)
               by_cases h : d = i
               · subst h; rw [uM_s, if_neg hne]; rfl
               · rw [uM_n h, zf_63.1 22 (by decide) (by decide), zf_48 22 (by decide)]; exact hW d (by omega))
            | (refine ih (i + 1) _ (by omega) (by omega) (fun k a b c => by rw [uM_ne a]; exact hF k a b c) (fun d hd => ?_)
               by_cases h : d = i
               · subst h; rw [uM_s, if_pos heq]
               · rw [uM_n h]; exact hW d (by omega))
        · skip
          have heq : w i = -1 := c_2
          refine j_aload_n C dX0_ask_27 rfl rfl ?_
          refine j_get C dX0_ask_28 jf_RX0_15 (wO cCo) rfl ?_
          refine j_iload C dX0_ask_31 rfl ?_
          refine j_iconst (v := 0) C dX0_ask_33 rfl ?_
          refine j_iast C (i) dX0_ask_34 (wA cA22) (rfl) (hi) (by decide) (sA cA22 _ _) ?_
          refine j_goto (tgt := 73) C dX0_ask_35 (by decide) ?_
          refine j_iinc (lv' := [(4, _), (5, _), (0, _), (1, _), (2, _), (3, _)]) (v := nI (i + 1)) C dX0_ask_73 rfl (j_inc1 i) (by decide) rfl ?_
          refine j_goto (tgt := 3) C dX0_ask_76 (by decide) ?_
          refine j_lv (lv' := [(0, _), (1, _), (2, _), (3, _), (4, _)]) rfl ?_
          first
            | (refine ih (i + 1) _ (by omega) (by omega) (fun k a b c => by rw [uM_ne a, zf_63.1 k b c, zf_48 k b]; exact hF k a b c) (fun d hd => ?_)
               by_cases h : d = i
               · subst h; rw [uM_s, if_neg hne]; rfl
               · rw [uM_n h, zf_63.1 22 (by decide) (by decide), zf_48 22 (by decide)]; exact hW d (by omega))
            | (refine ih (i + 1) _ (by omega) (by omega) (fun k a b c => by rw [uM_ne a]; exact hF k a b c) (fun d hd => ?_)
               by_cases h : d = i
               · subst h; rw [uM_s, if_pos heq]
               · rw [uM_n h]; exact hW d (by omega))
  refine j_lv (lv' := [(0, _), (1, _), (2, _), (3, _), (4, _)]) rfl ?_
  exact L_3 31 0 _ (by omega) (by omega) (fun _ _ _ _ => rfl) (fun d h => absurd h (by omega))
set_option maxHeartbeats 4000000 in
set_option maxRecDepth 100000 in
theorem c_X0_pass (l : Launch) (g : jG) (a : Nat → Nat) (M : (Nat → Nat → Int32)) (G : Nat) (hG : isGl G) (Wk : Nat) (hW : isWk Wk)  : Cv l g yX0_pass cX0_pass 4 3 59 0 0 (cW g a) [.ref (a 20), .ref (a G), .ref (a Wk)] M (fun z => (∀ k, k ≠ 23 → z k = M k) ∧ ∀ d, d < 30 → z 23 d = if pas (M Wk 0) (M Wk 1) (M 21 d) then shS (M G) (M 22 d) (M Wk 2) else 0) := by
  refine mk_v (by decide +kernel) rfl (fun KK hKl hKg C hin hret => ?_)
  subst hKl; subst hKg
  refine j_lv (lv' := [(0, _), (1, _), (2, _)]) rfl ?_
  have hG5 := Gl24 hG; have hW5 := Wk24 hW
  refine j_iconst (v := 0) C dX0_pass_0 rfl ?_
  refine j_istore_n (lv' := [(3, _), (0, _), (1, _), (2, _)]) C dX0_pass_1 rfl (by decide) rfl ?_
  have L_2 : ∀ k : Nat, ∀ (i : Nat) (M' : Nat → Nat → Int32), i ≤ 30 → 30 < i + k → (∀ k, k ≠ 23 → M' k = M k) → (∀ d, d < i → M' 23 d = if pas (M Wk 0) (M Wk 1) (M 21 d) then shS (M G) (M 22 d) (M Wk 2) else 0) → J KK (cW (kG KK) a) 0 0 M' [(0, .ref (a 20)), (1, .ref (a G)), (2, .ref (a Wk)), (3, .int (nI i))] 2 [] := by
    intro k
    induction k with
    | zero => intro i M' h1 hk hF hL; omega
    | succ k ih =>
      intro i M' h1 hk hF hL
      have e_i : (nI i).toInt = i := nI_toInt (by omega)
      refine j_iload_n C dX0_pass_2 rfl rfl ?_
      refine j_aload_n C dX0_pass_3 rfl rfl ?_
      refine j_get C dX0_pass_4 jf_RX0_18 (wO cCo) rfl ?_
      refine j_alen (v := 30) C dX0_pass_7 (wA cA23) gty_0 rfl ?_
      refine j_icmp_ge (tgt := 62) C dX0_pass_8 (by decide) (fun c_1 => ?_) (fun c_1 => ?_)
      · skip
        have hi : i = 30 := by simp only [Int32.lt_iff_toInt_lt, Int32.le_iff_toInt_le, ← Int32.toInt_inj, Int32.reduceToInt, e_i] at c_1; omega
        subst hi
        refine hret _ _ _ dX0_pass_62 ?_
        exact ⟨hF, hL⟩
      · skip
        have hi : i < 30 := by simp only [Int32.lt_iff_toInt_lt, Int32.le_iff_toInt_le, ← Int32.toInt_inj, Int32.reduceToInt, e_i] at c_1; omega
        refine j_iload_n C dX0_pass_11 rfl rfl ?_
        refine j_aload_n C dX0_pass_12 rfl rfl ?_
        refine j_get C dX0_pass_13 jf_RX0_15 (wO cCo) rfl ?_
        refine j_alen (v := 30) C dX0_pass_16 (wA cA22) gty_0 rfl ?_
        refine j_icmp_ge (tgt := 62) C dX0_pass_17 (by decide) (fun c_2 => ?_) (fun c_2 => ?_)
        · skip
          exact absurd c_2 (nI_ge hi (by decide))
        · skip
          refine j_aload_n C dX0_pass_20 rfl rfl ?_
          refine j_get C dX0_pass_21 jf_RX0_18 (wO cCo) rfl ?_
          refine j_iload_n C dX0_pass_24 rfl rfl ?_
          refine j_aload_n C dX0_pass_25 rfl rfl ?_
          refine j_aload_n C dX0_pass_26 rfl rfl ?_
          refine j_iload_n C dX0_pass_27 rfl rfl ?_
          refine j_calliv C (c_X0_whereOn _ _ _ _ _ i rfl hi) dX0_pass_28 jm_RX0_54 ⟨_, _, _, _, wO cCo, rfl, rfl⟩ ⟨by decide, by decide, by decide, by decide⟩ rfl (Nat.le_of_ble_eq_true rfl) (fun r_28 z_28 hz_28 => ?_)
          obtain ⟨hr, hz⟩ := hz_28; rw [hF 21 (by decide)] at hr; have hr := hr.symm; have hz := hz.symm; subst hr; subst hz
          refine j_calliv C (c_X8_passes _ _ _ _ Wk hW _ ) dX0_pass_31 jm_RX0_57 ⟨_, _, _, _, wO (cWk hW), rfl, rfl⟩ ⟨by decide, by decide, by decide, by decide⟩ rfl (Nat.le_of_ble_eq_true rfl) (fun r z hz => ?_)
          obtain ⟨hb, hz⟩ := hz; have hz := hz.symm; subst hz
          rcases hb with ⟨rfl, b_3⟩ | ⟨rfl, b_3⟩
          · skip
            have hp : pas (M Wk 0) (M Wk 1) (M 21 i) := by rw [hF Wk hW5.2.2.2.2] at b_3; exact b_3
            refine j_if_eq (tgt := 54) C dX0_pass_34 (by decide) (fun c => absurd c (by decide)) (fun _ => ?_)
            refine j_aload_n C dX0_pass_37 rfl rfl ?_
            refine j_aload_n C dX0_pass_38 rfl rfl ?_
            refine j_get C dX0_pass_39 jf_RX0_15 (wO cCo) rfl ?_
            refine j_iload_n C dX0_pass_42 rfl rfl ?_
            refine j_iald C (i) dX0_pass_43 (wA cA22) (rfl) (hi) (by decide) ?_
            refine j_aload_n C dX0_pass_44 rfl rfl ?_
            refine j_get C dX0_pass_45 jf_RX0_63 (wO (cWk hW)) rfl ?_
            refine j_calliv C (c_X1_showing _ _ _ _ G hG _ _ ) dX0_pass_48 jm_RX0_66 ⟨_, _, _, _, wO (cGl hG), rfl, rfl⟩ ⟨by decide, by decide, by decide, by decide⟩ rfl (Nat.le_of_ble_eq_true rfl) (fun r z hz => ?_)
            obtain ⟨hr, hz⟩ := hz; have hr := hr.symm; have hz := hz.symm; subst hr; subst hz
            refine j_goto (tgt := 55) C dX0_pass_51 (by decide) ?_
            refine j_iast C (i) dX0_pass_55 (wA cA23) (rfl) (hi) (by decide) (sA cA23 _ _) ?_
            refine j_iinc (lv' := [(3, _), (0, _), (1, _), (2, _)]) (v := nI (i + 1)) C dX0_pass_56 rfl (j_inc1 i) (by decide) rfl ?_
            refine j_goto (tgt := 2) C dX0_pass_59 (by decide) ?_
            refine j_lv (lv' := [(0, _), (1, _), (2, _), (3, _)]) rfl ?_
            refine ih (i + 1) _ (by omega) (by omega) (fun k a => by rw [uM_ne a]; exact hF k a) (fun d hd => ?_)
            by_cases h : d = i
            · subst h; rw [uM_s]
              first | rw [if_pos hp] | rw [if_neg hp]
              try rw [hF G hG5.2.2.2.2, hF 22 (by decide), hF Wk hW5.2.2.2.2]
            · rw [uM_n h]; exact hL d (by omega)
          · skip
            have hp : ¬ pas (M Wk 0) (M Wk 1) (M 21 i) := by rw [hF Wk hW5.2.2.2.2] at b_3; exact b_3
            refine j_if_eq (tgt := 54) C dX0_pass_34 (by decide) (fun _ => ?_) (fun c => absurd (by decide) c)
            refine j_iconst (v := 0) C dX0_pass_54 rfl ?_
            refine j_iast C (i) dX0_pass_55 (wA cA23) (rfl) (hi) (by decide) (sA cA23 _ _) ?_
            refine j_iinc (lv' := [(3, _), (0, _), (1, _), (2, _)]) (v := nI (i + 1)) C dX0_pass_56 rfl (j_inc1 i) (by decide) rfl ?_
            refine j_goto (tgt := 2) C dX0_pass_59 (by decide) ?_
            refine j_lv (lv' := [(0, _), (1, _), (2, _), (3, _)]) rfl ?_
            refine ih (i + 1) _ (by omega) (by omega) (fun k a => by rw [uM_ne a]; exact hF k a) (fun d hd => ?_)
            by_cases h : d = i
            · subst h; rw [uM_s]
              first | rw [if_pos hp] | rw [if_neg hp]
              try rw [hF G hG5.2.2.2.2, hF 22 (by decide), hF Wk hW5.2.2.2.2]
            · rw [uM_n h]; exact hL d (by omega)
  refine j_lv (lv' := [(0, _), (1, _), (2, _), (3, _)]) rfl ?_
  exact L_2 31 0 _ (by omega) (by omega) (fun _ _ => rfl) (fun d h => absurd h (by omega))
set_option maxHeartbeats 4000000 in
set_option maxRecDepth 100000 in
theorem c_X0_mindsOn (l : Launch) (g : jG) (a : Nat → Nat) (M : (Nat → Nat → Int32)) (p : Int32) (K : Nat) (hK : isTx K) (G : Nat) (hG : isGl G) (f : Int32) (q : Nat) (hp : p = nI q) (hq : q < 30) (T : Nat → List Int32) (hT : txR M K T) : Ci l g yX0_mindsOn cX0_mindsOn 6 .int 3 69 0 0 (cW g a) [.ref (a 20), .int p, .ref (a K), .ref (a G), .int f] M (fun r z => r = (if M 21 q = -1 then 0 else wiS (vaS (enS (M G) (M 21 q) p f) (T 2)) 0 99) ∧ ∀ k, k ≠ 24 → k ≠ 25 → z k = M k) := by
  refine mk_i (by decide +kernel) rfl (fun KK hKl hKg C hin hret => ?_)
  subst hKl; subst hKg
  refine j_lv (lv' := [(0, _), (1, _), (2, _), (3, _), (4, _)]) rfl ?_
  have hG5 := Gl24 hG; have hK5 := Tx24 hK
  refine j_aload_n C dX0_mindsOn_0 rfl rfl ?_
  refine j_iload_n C dX0_mindsOn_1 rfl rfl ?_
  refine j_calliv C (c_X0_whereOn _ _ _ _ _ q hp hq) dX0_mindsOn_2 jm_RX0_54 ⟨_, _, _, _, wO cCo, rfl, rfl⟩ ⟨by decide, by decide, by decide, by decide⟩ rfl (Nat.le_of_ble_eq_true rfl) (fun r z hz => ?_)
  obtain ⟨hr, hz⟩ := hz; have hr := hr.symm; have hz := hz.symm; subst hr; subst hz
  refine j_istore (lv' := [(5, _), (0, _), (1, _), (2, _), (3, _), (4, _)]) C dX0_mindsOn_5 (by decide) rfl ?_
  refine j_iload C dX0_mindsOn_7 rfl ?_
  refine j_iconst (v := -1) C dX0_mindsOn_9 rfl ?_
  refine j_icmp_ne (tgt := 15) C dX0_mindsOn_10 (by decide) (fun c_1 => ?_) (fun c_1 => ?_)
  · skip
    refine j_aload_n C dX0_mindsOn_15 rfl rfl ?_
    refine j_get C dX0_mindsOn_16 jf_RX0_24 (wO cCo) rfl ?_
    refine j_aload_n C dX0_mindsOn_19 rfl rfl ?_
    refine j_iload C dX0_mindsOn_20 rfl ?_
    refine j_iload_n C dX0_mindsOn_22 rfl rfl ?_
    refine j_iload C dX0_mindsOn_23 rfl ?_
    refine j_callvv C (c_X4_lookAt _ _ _ _ G hG _ _ _ ) dX0_mindsOn_25 jm_RX0_38 ⟨_, _, _, _, wO cRk, rfl, rfl⟩ ⟨by decide, by decide, by decide, by decide⟩ rfl (Nat.le_of_ble_eq_true rfl) (fun z_25 hz_25 => ?_)
    obtain ⟨zf_25, ze_25⟩ := hz_25
    have hT9 : txR z_25 K T := txR_c hT (zf_25 _ (by omega)) (zf_25 _ (by omega))
    refine j_aload_n C dX0_mindsOn_28 rfl rfl ?_
    refine j_get C dX0_mindsOn_29 jf_RX0_24 (wO cCo) rfl ?_
    refine j_aload_n C dX0_mindsOn_32 rfl rfl ?_
    refine j_iconst (v := 2) C dX0_mindsOn_33 rfl ?_
    refine j_calliv C (c_X4_reckon _ _ _ _ K hK _ 2 rfl (by decide) T hT9 (enS (M G) (M 21 q) p f) ze_25) dX0_mindsOn_34 jm_RX0_42 ⟨_, _, _, _, wO cRk, rfl, rfl⟩ ⟨by decide, by decide, by decide, by decide⟩ rfl (Nat.le_of_ble_eq_true rfl) (fun r_34 z_34 hz_34 => ?_)
    obtain ⟨hr, zf_34⟩ := hz_34; have hr := hr.symm; subst hr
    refine j_iconst (v := 0) C dX0_mindsOn_37 rfl ?_
    refine j_bipush (v := 99) C dX0_mindsOn_38 rfl ?_
    refine j_callisN C (c_X9_within _ _ _ _ _ _ _ (by decide)) dX0_mindsOn_40 jmn_RX0_46 ⟨by decide, by decide, by decide, by decide⟩ rfl (Nat.le_of_ble_eq_true rfl) (fun r z hz => ?_)
    obtain ⟨hr, hz⟩ := hz; have hr := hr.symm; have hz := hz.symm; subst hr; subst hz
    refine hret _ _ _ _ dX0_mindsOn_43 rfl ?_
    first | exact ⟨(if_pos (by assumption)).symm, fun _ _ _ => rfl⟩ | exact ⟨(if_neg (by assumption)).symm, fun k a b => by rw [zf_34.1 k a b, zf_25 k a]⟩
  · skip
    refine j_iconst (v := 0) C dX0_mindsOn_13 rfl ?_
    refine hret _ _ _ _ dX0_mindsOn_14 rfl ?_
    first | exact ⟨(if_pos (by assumption)).symm, fun _ _ _ => rfl⟩ | exact ⟨(if_neg (by assumption)).symm, fun k a b => by rw [zf_34.1 k a b, zf_25 k a]⟩
theorem leS_c {w : Int64} {f h : Nat → Int32} : ∀ n, (∀ d, d < n → f d = h d) → leS w f n = leS w h n
  | 0, _ => rfl
  | n + 1, e => by rw [leS, leS, leS_c n (fun d hd => e d (by omega)), e n (by omega)]
theorem i64_100 : ¬ (100 : Int64) = 0 := by decide
set_option maxHeartbeats 4000000 in
set_option maxRecDepth 100000 in
theorem c_X0_partsBy (l : Launch) (g : jG) (a : Nat → Nat) (M : (Nat → Nat → Int32)) (n : Int32) (q : Nat) (hn : n = nI q) (hq : q ≤ 30) : Cl l g yX0_partsBy cX0_partsBy 5 1 21 0 0 (cW g a) [.ref (a 20), .int n] M (fun r z => r = paS (M 23) q ∧ z = M) := by
  refine mk_l (by decide +kernel) rfl (fun KK hKl hKg C hin hret => ?_)
  subst hKl; subst hKg
  refine j_lv (lv' := [(0, _), (1, _)]) rfl ?_
  subst hn
  refine j_ldc2 C dX0_partsBy_0 jc_RX0_70 ?_
  refine j_lstore_n (lv' := [(2, _), (0, _), (1, _)]) C dX0_partsBy_3 rfl (by decide) rfl ?_
  refine j_iconst (v := 0) C dX0_partsBy_4 rfl ?_
  refine j_istore (lv' := [(4, _), (2, _), (0, _), (1, _)]) C dX0_partsBy_5 (by decide) rfl ?_
  have L_7 : ∀ k : Nat, ∀ (d : Nat), d ≤ q → q < d + k → J KK (cW (kG KK) a) 0 0 M [(0, .ref (a 20)), (1, .int (nI q)), (2, .long (leS 1000000000 (M 23) d)), (4, .int (nI d))] 7 [] := by
    intro k
    induction k with
    | zero => intro d h1 hk; omega
    | succ k ih =>
      intro d h1 hk
      have e_d : (nI d).toInt = d := nI_toInt (by omega); have e_q : (nI q).toInt = q := nI_toInt (by omega)
      refine j_iload C dX0_partsBy_7 rfl ?_
      refine j_iload_n C dX0_partsBy_9 rfl rfl ?_
      refine j_icmp_ge (tgt := 43) C dX0_partsBy_10 (by decide) (fun c_1 => ?_) (fun c_1 => ?_)
      · skip
        have hd : d = q := by simp only [Int32.lt_iff_toInt_lt, Int32.le_iff_toInt_le, ← Int32.toInt_inj, Int32.reduceToInt, e_d, e_q] at c_1; omega
        subst hd
        refine j_ldc2 C dX0_partsBy_43 jc_RX0_70 ?_
        refine j_lload_n C dX0_partsBy_46 rfl rfl ?_
        refine j_lsub C dX0_partsBy_47 ?_
        refine hret _ _ _ _ dX0_partsBy_48 ?_
        exact ⟨rfl, rfl⟩
      · skip
        have hd : d < q := by simp only [Int32.lt_iff_toInt_lt, Int32.le_iff_toInt_le, ← Int32.toInt_inj, Int32.reduceToInt, e_d, e_q] at c_1; omega
        refine j_iload C dX0_partsBy_13 rfl ?_
        refine j_bipush (v := 30) C dX0_partsBy_15 rfl ?_
        refine j_icmp_ge (tgt := 43) C dX0_partsBy_17 (by decide) (fun c_2 => ?_) (fun c_2 => ?_)
        · skip
          exact absurd c_2 (nI_ge (show d < 30 by omega) (by decide))
        · skip
          refine j_lload_n C dX0_partsBy_20 rfl rfl ?_
          refine j_bipush (v := 100) C dX0_partsBy_21 rfl ?_
          refine j_aload_n C dX0_partsBy_23 rfl rfl ?_
          refine j_iload C dX0_partsBy_24 rfl ?_
          refine j_calliv C (c_X0_likelyOn _ _ _ _ _ d rfl (by omega)) dX0_partsBy_26 jm_RX0_72 ⟨_, _, _, _, wO cCo, rfl, rfl⟩ ⟨by decide, by decide, by decide, by decide⟩ rfl (Nat.le_of_ble_eq_true rfl) (fun r z hz => ?_)
          obtain ⟨hr, hz⟩ := hz; have hr := hr.symm; have hz := hz.symm; subst hr; subst hz
          refine j_isub C dX0_partsBy_29 ?_
          refine j_i2l C dX0_partsBy_30 ?_
          refine j_lmul C dX0_partsBy_31 ?_
          refine j_ldc2 C dX0_partsBy_32 jc_RX0_75 ?_
          refine j_ldiv C dX0_partsBy_35 i64_100 ?_
          refine j_lstore_n (lv' := [(2, _), (0, _), (1, _), (4, _)]) C dX0_partsBy_36 rfl (by decide) rfl ?_
          refine j_iinc (lv' := [(4, _), (2, _), (0, _), (1, _)]) (v := nI (d + 1)) C dX0_partsBy_37 rfl (j_inc1 d) (by decide) rfl ?_
          refine j_goto (tgt := 7) C dX0_partsBy_40 (by decide) ?_
          refine j_lv (lv' := [(0, _), (1, _), (2, _), (4, _)]) rfl ?_
          exact ih (d + 1) (by omega) (by omega)
  refine j_lv (lv' := [(0, _), (1, _), (2, _), (4, _)]) rfl ?_
  exact L_7 (q + 1) 0 (by omega) (by omega)
set_option maxHeartbeats 4000000 in
set_option maxRecDepth 100000 in
theorem c_X0_seenBy (l : Launch) (g : jG) (a : Nat → Nat) (M : (Nat → Nat → Int32)) (n : Int32)  : Ci l g yX0_seenBy cX0_seenBy 4 .int 1 21 0 0 (cW g a) [.ref (a 20), .int n] M (fun r z => r = seS (M 23) n 30 0 ∧ z = M) := by
  refine mk_i (by decide +kernel) rfl (fun KK hKl hKg C hin hret => ?_)
  subst hKl; subst hKg
  refine j_lv (lv' := [(0, _), (1, _)]) rfl ?_
  refine j_iload_n C dX0_seenBy_0 rfl rfl ?_
  refine j_istore_n (lv' := [(2, _), (0, _), (1, _)]) C dX0_seenBy_1 rfl (by decide) rfl ?_
  refine j_iconst (v := 0) C dX0_seenBy_2 rfl ?_
  refine j_istore_n (lv' := [(3, _), (2, _), (0, _), (1, _)]) C dX0_seenBy_3 rfl (by decide) rfl ?_
  have L_4 : ∀ k : Nat, ∀ (d : Nat), d ≤ 30 → 30 < d + k → (seS (M 23) n 30 0 = seS (M 23) n (30 - d) d) → J KK (cW (kG KK) a) 0 0 M [(0, .ref (a 20)), (1, .int n), (2, .int (zS n d)), (3, .int (nI d))] 4 [] := by
    intro k
    induction k with
    | zero => intro d h1 hk hs; omega
    | succ k ih =>
      intro d h1 hk hs
      have e_d : (nI d).toInt = d := nI_toInt (by omega)
      refine j_iload_n C dX0_seenBy_4 rfl rfl ?_
      refine j_bipush (v := 30) C dX0_seenBy_5 rfl ?_
      refine j_icmp_ge (tgt := 42) C dX0_seenBy_7 (by decide) (fun c_1 => ?_) (fun c_1 => ?_)
      · skip
        have hd : 30 - d = 0 := by simp only [Int32.lt_iff_toInt_lt, Int32.le_iff_toInt_le, ← Int32.toInt_inj, Int32.reduceToInt, e_d] at c_1; omega
        refine j_iconst (v := -1) C dX0_seenBy_42 rfl ?_
        refine hret _ _ _ _ dX0_seenBy_43 rfl ?_
        first
          | (refine ⟨?_, rfl⟩
             rw [hs]
             obtain ⟨m, hm⟩ : ∃ m, 30 - d = m + 1 := ⟨29 - d, by omega⟩
             rw [hm, seS, if_pos]
             simp only [reS, luS, zS]; simp only [Int32.lt_iff_toInt_lt, Int32.le_iff_toInt_le, ← Int32.toInt_inj, Int32.reduceToInt] at *; omega)
          | (rw [hs, show 30 - d = 0 by omega]; exact ⟨rfl, rfl⟩)
      · skip
        have hd : d < 30 := by simp only [Int32.lt_iff_toInt_lt, Int32.le_iff_toInt_le, ← Int32.toInt_inj, Int32.reduceToInt, e_d] at c_1; omega
        refine j_iload_n C dX0_seenBy_10 rfl rfl ?_
        refine j_ldc C dX0_seenBy_11 jc_RX0_77 ?_
        refine j_imul C dX0_seenBy_13 ?_
        refine j_sipush (v := 12345) C dX0_seenBy_14 rfl ?_
        refine j_iadd C dX0_seenBy_17 ?_
        refine j_istore_n (lv' := [(2, _), (0, _), (1, _), (3, _)]) C dX0_seenBy_18 rfl (by decide) rfl ?_
        refine j_iload_n C dX0_seenBy_19 rfl rfl ?_
        refine j_bipush (v := 9) C dX0_seenBy_20 rfl ?_
        refine j_iushr C dX0_seenBy_22 rfl ?_
        refine j_bipush (v := 100) C dX0_seenBy_23 rfl ?_
        refine j_irem C dX0_seenBy_25 (by decide) ?_
        refine j_aload_n C dX0_seenBy_26 rfl rfl ?_
        refine j_iload_n C dX0_seenBy_27 rfl rfl ?_
        refine j_calliv C (c_X0_likelyOn _ _ _ _ _ d rfl (by omega)) dX0_seenBy_28 jm_RX0_72 ⟨_, _, _, _, wO cCo, rfl, rfl⟩ ⟨by decide, by decide, by decide, by decide⟩ rfl (Nat.le_of_ble_eq_true rfl) (fun r z hz => ?_)
        obtain ⟨hr, hz⟩ := hz; have hr := hr.symm; have hz := hz.symm; subst hr; subst hz
        refine j_icmp_ge (tgt := 36) C dX0_seenBy_31 (by decide) (fun c_2 => ?_) (fun c_2 => ?_)
        · skip
          refine j_iinc (lv' := [(3, _), (2, _), (0, _), (1, _)]) (v := nI (d + 1)) C dX0_seenBy_36 rfl (j_inc1 d) (by decide) rfl ?_
          refine j_goto (tgt := 4) C dX0_seenBy_39 (by decide) ?_
          refine j_lv (lv' := [(0, _), (1, _), (2, _), (3, _)]) rfl ?_
          exact ih (d + 1) (by omega) (by omega) (by
            rw [hs]
            obtain ⟨m, hm⟩ : ∃ m, 30 - d = m + 1 := ⟨29 - d, by omega⟩
            rw [hm, show 30 - (d + 1) = m by omega, seS, if_neg]
            exact fun h => (by simp only [reS, luS, zS] at h; simp only [Int32.lt_iff_toInt_lt, Int32.le_iff_toInt_le, ← Int32.toInt_inj, Int32.reduceToInt] at *; omega))
        · skip
          refine j_iload_n C dX0_seenBy_34 rfl rfl ?_
          refine hret _ _ _ _ dX0_seenBy_35 rfl ?_
          first
            | (refine ⟨?_, rfl⟩
               rw [hs]
               obtain ⟨m, hm⟩ : ∃ m, 30 - d = m + 1 := ⟨29 - d, by omega⟩
               rw [hm, seS, if_pos]
               simp only [reS, luS, zS]; simp only [Int32.lt_iff_toInt_lt, Int32.le_iff_toInt_le, ← Int32.toInt_inj, Int32.reduceToInt] at *; omega)
            | (rw [hs, show 30 - d = 0 by omega]; exact ⟨rfl, rfl⟩)
  refine j_lv (lv' := [(0, _), (1, _), (2, _), (3, _)]) rfl ?_
  exact L_4 31 0 (by omega) (by omega) rfl
