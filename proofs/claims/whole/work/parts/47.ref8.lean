/-! A PART, A TEXT: read and reckoned -/
theorem paL_ho {tc tn : Nat → Int32} {key : Int32} : hoS (paL tc tn key) := fun p acc => by
  have e := (lvS_ho (tc := tc) (tn := tn) 5).2.2.1 (p + 1) acc
  unfold paL
  by_cases c : tc p = key
  · have hc : ¬ ¬ tc p = key := fun h => h c
    simp only [if_neg hc]
    rw [e]
    by_cases c2 : (orL tc tn 5 (p + 1) []).1 = true ∧ tc (orL tc tn 5 (p + 1) []).2.1 = 59
    · simp only [if_pos c2]
    · simp only [if_neg c2]
  · simp only [if_pos c]; simp
theorem pa_n {tc tn : Nat → Int32} {key : Int32} {p : Nat} (h : ¬ tc p = key) : paL tc tn key p [] = (false, p, []) := by unfold paL; rw [if_pos h]
theorem pa_y {tc tn : Nat → Int32} {key : Int32} {p : Nat} (h : tc p = key) (h2 : (orL tc tn 5 (p + 1) []).1 = true) (h3 : tc (orL tc tn 5 (p + 1) []).2.1 = 59) : paL tc tn key p [] = (true, (orL tc tn 5 (p + 1) []).2.1 + 1, (orL tc tn 5 (p + 1) []).2.2) := by unfold paL; rw [if_neg (fun k => k h), if_pos ⟨h2, h3⟩]
theorem pa_f {tc tn : Nat → Int32} {key : Int32} {p : Nat} (h : tc p = key) (h2 : ¬ ((orL tc tn 5 (p + 1) []).1 = true ∧ tc (orL tc tn 5 (p + 1) []).2.1 = 59)) : paL tc tn key p [] = (false, (orL tc tn 5 (p + 1) []).2.1, (orL tc tn 5 (p + 1) []).2.2) := by unfold paL; rw [if_neg (fun k => k h), if_neg h2]
theorem fl_id {x : mS} (h : ¬ x.1 0 24 = 0) : flM x = x := if_neg h
theorem kd_end {b : Nat → Int32} {n p : Nat} : kdS b n (psS b n p) = 0 ↔ tcS b n p = 14 := by
  constructor
  · intro h
    rcases Nat.lt_or_ge (psS b n p) n with k | k
    · unfold kdS at h
      rw [if_pos k] at h
      repeat' split at h
      all_goals exact absurd h (by decide)
    · exact tc_end (by omega)
  · intro h
    rcases Nat.lt_or_ge (psS b n p) n with k | k
    · rw [tc_lt k] at h
      by_cases hL : isL (b (psS b n p))
      · rw [tkC_L hL] at h
        obtain ⟨w, e, hw⟩ := wo_c (l := slS b (psS b n p) (enR b n 97 122 (psS b n p)))
        rw [woS, e] at h
        have := (nI_eq (a := w) (b := 14) (by omega) (by omega)).mp h
        omega
      by_cases hD : isD (b (psS b n p))
      · rw [tkC_D hL hD] at h
        split at h <;> exact absurd h (by decide)
      · rw [tkC_S hL hD] at h
        split at h
        · rename_i hs; exact absurd (sg_ge hs).1 (by rw [h]; decide)
        · exact absurd h (by decide)
    · rw [kdS, if_neg (by omega)]
/-- nothing but the reader's slots is new (the text's place too) -/
def mG (x z : mS) : Prop := (∀ k, k ≠ 0 → z.1 k = x.1 k) ∧ ∀ j, (j < 17 ∨ 25 < j) → z.1 0 j = x.1 0 j
theorem mG_m {x y z : mS} (h : mG x y) (h2 : mF y z) : mG x z := ⟨fun k hk => (h2.1 k hk).trans (h.1 k hk), fun j hj => (h2.2 j (by omega)).trans (h.2 j hj)⟩
theorem mG_1 {x y : mS} {j : Nat} {v : Int32} (h : mG x y) (hj : 17 ≤ j ∧ j ≤ 25) : mG x (mU y 0 j v) := ⟨fun k hk => by rw [mU_1, uM_ne hk]; exact h.1 k hk, fun i hi => by rw [mU_1, uM_n (by omega)]; exact h.2 i hi⟩
theorem mG_r {x : mS} : mG x x := ⟨fun _ _ => rfl, fun _ _ => rfl⟩
theorem eM_g {x z : mS} (hf : mG x z) : eM z = eM x := by
  funext i
  unfold eM
  split
  · exact hf.2 _ (by omega)
  · rfl
/-- what a reading comes to: which part w says r -/
def rdP (x z : mS) (b : Nat → Int32) (n : Nat) (w r : Int32) : Prop := mG x z ∧ ((flS (tcS b n) (tnS b n) = none ∧ z.1 0 24 = 0 ∧ r = vaS (eM x) (tdT (tcS b n) (tnS b n) (if w = 0 then 0 else if w = 1 then 1 else 2))) ∨ ∃ q, flS (tcS b n) (tnS b n) = some q ∧ ¬ z.1 0 24 = 0 ∧ z.1 0 25 = nI (psS b n q))
theorem va_ru {e : Nat → Int32} {l : List Int32} {v : Int32} (h : ∀ s, ruS e l s = v :: s) : v = vaS e l := by rw [vaS, h]; rfl
theorem td_1 {tc tn : Nat → Int32} : tdT tc tn 1 = (paL tc tn 8 (tx1 tc tn).2.1 []).2.2 := by
  have e := paL_ho (tc := tc) (tn := tn) (key := 8) (tx1 tc tn).2.1 (tx1 tc tn).2.2
  rw [tdT, if_neg (by decide), if_pos rfl, tx2, e]; simp
theorem td_2 {tc tn : Nat → Int32} : tdT tc tn 2 = (paL tc tn 9 (tx2 tc tn).2.1 []).2.2 := by
  have e := paL_ho (tc := tc) (tn := tn) (key := 9) (tx2 tc tn).2.1 (tx2 tc tn).2.2
  rw [tdT, if_neg (by decide), if_neg (by decide), tx3, e]; simp
theorem tx2_e {tc tn : Nat → Int32} : (paL tc tn 8 (tx1 tc tn).2.1 []).1 = (tx2 tc tn).1 ∧ (paL tc tn 8 (tx1 tc tn).2.1 []).2.1 = (tx2 tc tn).2.1 := by
  have e := paL_ho (tc := tc) (tn := tn) (key := 8) (tx1 tc tn).2.1 (tx1 tc tn).2.2
  rw [tx2, e]; exact ⟨rfl, rfl⟩
theorem tx3_e {tc tn : Nat → Int32} : (paL tc tn 9 (tx2 tc tn).2.1 []).1 = (tx3 tc tn).1 ∧ (paL tc tn 9 (tx2 tc tn).2.1 []).2.1 = (tx3 tc tn).2.1 := by
  have e := paL_ho (tc := tc) (tn := tn) (key := 9) (tx2 tc tn).2.1 (tx2 tc tn).2.2
  rw [tx3, e]; exact ⟨rfl, rfl⟩
theorem td_0 {tc tn : Nat → Int32} : tdT tc tn 0 = (paL tc tn 7 0 []).2.2 := by rw [tdT, if_pos rfl]; rfl
-- what a text says hangs on what its names say
theorem itS_c {e e' : Nat → Int32} (h : ∀ i, 2 ≤ i → i < 8 → e i = e' i) (i : Int32) (s : List Int32) : itS e i s = itS e' i s := by
  unfold itS; rw [nmS_c h]
theorem ruS_c {e e' : Nat → Int32} (h : ∀ i, 2 ≤ i → i < 8 → e i = e' i) : ∀ (l s : List Int32), ruS e l s = ruS e' l s
  | [], _ => rfl
  | i :: l, s => by
    show ruS e l (itS e i s) = ruS e' l (itS e' i s)
    rw [itS_c h, ruS_c h]
theorem vaS_c {e e' : Nat → Int32} (h : ∀ i, 2 ≤ i → i < 8 → e i = e' i) (l : List Int32) : vaS e l = vaS e' l := by rw [vaS, vaS, ruS_c h]
theorem ap_en {p f : Int32} (hp : 0 ≤ p ∧ p ≤ 19) (hf : 0 ≤ f ∧ f ≤ 19) : apS p f = if 0 ≤ p - f then p - f else 0 - (p - f) := by
  obtain ⟨i, hi, rfl⟩ := in_of (q := p) (m := 20) (B := 20) (by simp only [Int32.lt_iff_toInt_lt, Int32.le_iff_toInt_le, Int32.reduceToInt] at hp ⊢; omega) rfl
  obtain ⟨j, hj, rfl⟩ := in_of (q := f) (m := 20) (B := 20) (by simp only [Int32.lt_iff_toInt_lt, Int32.le_iff_toInt_le, Int32.reduceToInt] at hf ⊢; omega) rfl
  have e_i : (nI i).toInt = i := nI_toInt (by omega)
  have e_j : (nI j).toInt = j := nI_toInt (by omega)
  have e1 : (nI i - nI j).toInt = (i : Int) - j := by rw [i32_sub] <;> rw [e_i, e_j] <;> omega
  have e2 : (nI j - nI i).toInt = (j : Int) - i := by rw [i32_sub] <;> rw [e_i, e_j] <;> omega
  have e3 : (0 - (nI i - nI j)).toInt = (j : Int) - i := by rw [i32_sub] <;> rw [e1] <;> simp <;> omega
  unfold apS
  by_cases c : j < i
  · rw [if_pos (by simp only [Int32.lt_iff_toInt_lt, e_i, e_j]; omega), if_pos (by simp only [Int32.le_iff_toInt_le, e1, Int32.reduceToInt]; omega)]
  · rw [if_neg (by simp only [Int32.lt_iff_toInt_lt, e_i, e_j]; omega)]
    by_cases c2 : i = j
    · subst c2; rw [if_pos (by simp only [Int32.le_iff_toInt_le, e1, Int32.reduceToInt]; omega)]
    · rw [if_neg (by simp only [Int32.le_iff_toInt_le, e1, Int32.reduceToInt]; omega)]
      exact Int32.toInt_inj.mp (e2.trans e3.symm)
/-- text ru stands well in the reference: n bytes b -/
def tgM (x : mS) (b : Nat → Int32) (n t : Nat) : Prop := t < 6 ∧ x.1 2 t = nI n ∧ n ≤ 160 ∧ (∀ i, i < n → x.1 1 (160 * t + i) = b i ∧ 0 ≤ b i) ∧ flS (tcS b n) (tnS b n) = none
def mH (x z : mS) : Prop := (∀ k, k ≠ 0 → z.1 k = x.1 k) ∧ ∀ j, (j < 11 ∨ 25 < j) → z.1 0 j = x.1 0 j
theorem mH_r {x : mS} : mH x x := ⟨fun _ _ => rfl, fun _ _ => rfl⟩
theorem mH_t {x y z : mS} (h : mH x y) (h2 : mH y z) : mH x z := ⟨fun k hk => (h2.1 k hk).trans (h.1 k hk), fun j hj => (h2.2 j hj).trans (h.2 j hj)⟩
theorem mH_g {x y z : mS} (h : mH x y) (h2 : mG y z) : mH x z := ⟨fun k hk => (h2.1 k hk).trans (h.1 k hk), fun j hj => (h2.2 j (by omega)).trans (h.2 j hj)⟩
theorem mH_1 {x y : mS} {j : Nat} {v : Int32} (h : mH x y) (hj : 11 ≤ j ∧ j ≤ 25) : mH x (mU y 0 j v) := ⟨fun k hk => by rw [mU_1, uM_ne hk]; exact h.1 k hk, fun i hi => by rw [mU_1, uM_n (by omega)]; exact h.2 i hi⟩

set_option maxHeartbeats 4000000 in
set_option maxRecDepth 100000 in
theorem c_X10_part (l : Launch) (g : jG) (a : Nat → Nat) (x : mS) (v : Int32) (key : Int32) (b : Nat → Int32) (n t : Nat) (p : Nat) (hrb : rbM x b n t) (hop : x.1 0 23 = nI 0) (hst : stM x b n (psS b n p)) (hp : p ≤ n) (hkey : key = 7 ∨ key = 8 ∨ key = 9) (hv : (v = 1 ∧ tcS b n p = key) ∨ (v = 0 ∧ ¬ tcS b n p = key)) : Ci l g yX10_part cX10_part 3 .int 40 883 0 0 (mW g a) [.ref (a 0), .int v] x (fun r z => ocM x z b n 0 (paL (tcS b n) (tnS b n) key p []) r) := by
  refine mk_i (by decide +kernel) rfl (fun KK hKl hKg C hin hret => ?_)
  subst hKl; subst hKg
  refine j_lv (lv' := [(0, _), (1, _)]) rfl ?_
  refine j_iload_n C dX10_part_0 rfl rfl ?_
  refine j_if_ne (tgt := 8) C dX10_part_1 (by decide) (fun c_1 => ?_) (fun c_1 => ?_)
  · skip
    have htc : tcS b n p = key := (hv.resolve_right (fun h => c_1 h.1)).2
    have hq3 : ¬ key = 14 ∧ ¬ key = 15 := by rcases hkey with rfl | rfl | rfl <;> decide
    have h14 : ¬ tcS b n p = 14 := by rw [htc]; exact hq3.1
    have h15 : ¬ tcS b n p = 15 := by rw [htc]; exact hq3.2
    have hlt : p < n := lt_tc h14
    refine j_aload_n C dX10_part_8 rfl rfl ?_
    refine j_get C dX10_part_9 jf_RX10_146 (wO mO) rfl ?_
    refine j_if_ne (tgt := 19) C dX10_part_12 (by decide) (fun c_12 => ?_) (fun c_12 => ?_)
    · skip
      exact absurd hst.1 c_12
    · skip
      skip
      refine j_aload_n C dX10_part_15 rfl rfl ?_
      refine j_callvv C (c_X10_next _ _ _ _  b n t (tkE b n (psS b n p)) hrb (hst.2.2.2.2.1.trans (congrArg nI (hr_ok h14 h15).1)) (tkE_gt (hr_ok h14 h15).2.1).2) dX10_part_16 jm_RX10_163 ⟨_, _, _, _, wO mO, rfl, rfl⟩ ⟨by decide, by decide, by decide, by decide⟩ rfl (Nat.le_of_ble_eq_true rfl) (fun z_16 hz_16 => ?_)
      obtain ⟨hn_16, ht_16⟩ := hz_16
      rw [(hr_ok h14 h15).2.2] at ht_16
      have hst1 : stM z_16 b n (psS b n (p + 1)) := ⟨(hn_16.2 24 (by decide)).trans hst.1, ht_16⟩
      have hF1 : mF x z_16 := nxF_m hn_16
      have hO1 : z_16.1 0 23 = nI 0 := (hn_16.2 23 (by decide)).trans hop
      refine j_aload_n C dX10_part_19 rfl rfl ?_
      refine j_get C dX10_part_20 jf_RX10_146 (wO mO) rfl ?_
      refine j_if_eq (tgt := 30) C dX10_part_23 (by decide) (fun c_23 => ?_) (fun c_23 => ?_)
      · skip
        skip
        refine j_aload_n C dX10_part_30 rfl rfl ?_
        refine j_calliv C (c_X10_either0 _ _ _ _  b n t (p + 1) (rbM_m hrb hF1) hO1 hst1 hlt) dX10_part_31 jm_RX10_308 ⟨_, _, _, _, wO mO, rfl, rfl⟩ ⟨by decide, by decide, by decide, by decide⟩ rfl (Nat.le_of_ble_eq_true rfl) (fun r_31 z_31 hz_31 => ?_)
        skip
        refine j_istore_n (lv' := [(2, _), (0, _), (1, _)]) C dX10_part_34 rfl (by decide) rfl ?_
        refine j_aload_n C dX10_part_35 rfl rfl ?_
        refine j_bipush (v := 59) C dX10_part_36 rfl ?_
        refine j_calliv C (c_X10_isSign _ _ _ _ _ (by decide) b n t (orL (tcS b n) (tnS b n) 5 (p + 1) []).2.1 (oc_S (rbM_m hrb hF1) hz_31)) dX10_part_38 jm_RX10_188 ⟨_, _, _, _, wO mO, rfl, rfl⟩ ⟨by decide, by decide, by decide, by decide⟩ rfl (Nat.le_of_ble_eq_true rfl) (fun r z hz => ?_)
        obtain ⟨hb, hz⟩ := hz; have hz := hz.symm; subst hz
        rcases hb with ⟨rfl, b_38⟩ | ⟨rfl, b_38⟩
        · skip
          obtain ⟨hR1, hst3, hvl⟩ := oc_1 hz_31 b_38.1
          have htc3 : tcS b n (orL (tcS b n) (tnS b n) 5 (p + 1) []).2.1 = 59 := b_38.2
          have g14 : ¬ tcS b n (orL (tcS b n) (tnS b n) 5 (p + 1) []).2.1 = 14 := by rw [htc3]; decide
          have g15 : ¬ tcS b n (orL (tcS b n) (tnS b n) 5 (p + 1) []).2.1 = 15 := by rw [htc3]; decide
          have hF3 : mF x z_31 := mF_t hF1 hz_31.1
          refine j_if_ne (tgt := 48) C dX10_part_41 (by decide) (fun _ => ?_) (fun c => absurd c (by decide))
          refine j_aload_n C dX10_part_48 rfl rfl ?_
          refine j_get C dX10_part_49 jf_RX10_146 (wO mO) rfl ?_
          refine j_if_ne (tgt := 59) C dX10_part_52 (by decide) (fun c_52 => ?_) (fun c_52 => ?_)
          · skip
            exact absurd hst3.1 c_52
          · skip
            skip
            refine j_aload_n C dX10_part_55 rfl rfl ?_
            refine j_callvv C (c_X10_next _ _ _ _  b n t (tkE b n (psS b n (orL (tcS b n) (tnS b n) 5 (p + 1) []).2.1)) (rbM_m hrb hF3) (hst3.2.2.2.2.1.trans (congrArg nI (hr_ok g14 g15).1)) (tkE_gt (hr_ok g14 g15).2.1).2) dX10_part_56 jm_RX10_163 ⟨_, _, _, _, wO mO, rfl, rfl⟩ ⟨by decide, by decide, by decide, by decide⟩ rfl (Nat.le_of_ble_eq_true rfl) (fun z_56 hz_56 => ?_)
            obtain ⟨hn_56, ht_56⟩ := hz_56
            rw [(hr_ok g14 g15).2.2] at ht_56
            refine j_iload_n C dX10_part_59 rfl rfl ?_
            refine hret _ _ _ _ dX10_part_60 rfl ?_
            rw [pa_y htc hR1 htc3]
            exact oc_y hF3 hz_31.2.1 hst3.1 hn_56 ht_56 (eM_m hF1 ▸ hvl)
        · skip
          have hno : ¬ ((orL (tcS b n) (tnS b n) 5 (p + 1) []).1 = true ∧ tcS b n (orL (tcS b n) (tnS b n) 5 (p + 1) []).2.1 = 59) := fun h => b_38 ⟨oc_0 hz_31 h.1, h.2⟩
          refine j_if_ne (tgt := 48) C dX10_part_41 (by decide) (fun c => absurd (by decide) c) (fun _ => ?_)
          refine j_aload_n C dX10_part_44 rfl rfl ?_
          refine j_callvv C (c_X10_fail _ _ _ _  ) dX10_part_45 jm_RX10_160 ⟨_, _, _, _, wO mO, rfl, rfl⟩ ⟨by decide, by decide, by decide, by decide⟩ rfl (Nat.le_of_ble_eq_true rfl) (fun z_45 hz_45 => ?_)
          have hz_45 := hz_45.symm; subst hz_45
          refine j_aload_n C dX10_part_48 rfl rfl ?_
          refine j_get C dX10_part_49 jf_RX10_146 (wO mO) rfl ?_
          refine j_if_ne (tgt := 59) C dX10_part_52 (by decide) (fun c_52 => ?_) (fun c_52 => ?_)
          · skip
            skip
            refine j_iload_n C dX10_part_59 rfl rfl ?_
            refine hret _ _ _ _ dX10_part_60 rfl ?_
            rw [pa_f htc hno]
            exact ⟨mF_t hF1 (mF_t hz_31.1 flM_m), by rw [fl_23]; exact hz_31.2.1, Or.inr ⟨rfl, fl_24, oc_fl (R := (orL (tcS b n) (tnS b n) 5 (p + 1) [])) hz_31⟩⟩
          · skip
            exact absurd c_52 fl_24
      · skip
        exact absurd hst1.1 c_23
  · skip
    have htc : ¬ tcS b n p = key := (hv.resolve_left (fun h => by rw [h.1] at c_1; exact absurd c_1 (by decide))).2
    have hf24 := fl_24 (x := x)
    refine j_aload_n C dX10_part_4 rfl rfl ?_
    refine j_callvv C (c_X10_fail _ _ _ _  ) dX10_part_5 jm_RX10_160 ⟨_, _, _, _, wO mO, rfl, rfl⟩ ⟨by decide, by decide, by decide, by decide⟩ rfl (Nat.le_of_ble_eq_true rfl) (fun z_5 hz_5 => ?_)
    have hz_5 := hz_5.symm; subst hz_5
    refine j_aload_n C dX10_part_8 rfl rfl ?_
    refine j_get C dX10_part_9 jf_RX10_146 (wO mO) rfl ?_
    refine j_if_ne (tgt := 19) C dX10_part_12 (by decide) (fun c_12 => ?_) (fun c_12 => ?_)
    · skip
      skip
      refine j_aload_n C dX10_part_19 rfl rfl ?_
      refine j_get C dX10_part_20 jf_RX10_146 (wO mO) rfl ?_
      refine j_if_eq (tgt := 30) C dX10_part_23 (by decide) (fun c_23 => ?_) (fun c_23 => ?_)
      · skip
        exact absurd c_23 hf24
      · skip
        skip
        refine j_iconst (v := 0) C dX10_part_26 rfl ?_
        refine j_goto (tgt := 34) C dX10_part_27 (by decide) ?_
        refine j_istore_n (lv' := [(2, _), (0, _), (1, _)]) C dX10_part_34 rfl (by decide) rfl ?_
        refine j_aload_n C dX10_part_35 rfl rfl ?_
        refine j_bipush (v := 59) C dX10_part_36 rfl ?_
        refine j_calliv C (c_X10_isSign _ _ _ _ _ (by decide) b n t p (Or.inl hf24)) dX10_part_38 jm_RX10_188 ⟨_, _, _, _, wO mO, rfl, rfl⟩ ⟨by decide, by decide, by decide, by decide⟩ rfl (Nat.le_of_ble_eq_true rfl) (fun r z hz => ?_)
        obtain ⟨hb, hz⟩ := hz; have hz := hz.symm; subst hz
        rcases hb with ⟨rfl, b_38⟩ | ⟨rfl, b_38⟩
        · skip
          exact absurd b_38.1 hf24
        · skip
          skip
          refine j_if_ne (tgt := 48) C dX10_part_41 (by decide) (fun c => absurd (by decide) c) (fun _ => ?_)
          refine j_aload_n C dX10_part_44 rfl rfl ?_
          refine j_callvv C (c_X10_fail _ _ _ _  ) dX10_part_45 jm_RX10_160 ⟨_, _, _, _, wO mO, rfl, rfl⟩ ⟨by decide, by decide, by decide, by decide⟩ rfl (Nat.le_of_ble_eq_true rfl) (fun z_45 hz_45 => ?_)
          have hz_45 := hz_45.symm; subst hz_45
          refine j_aload_n C dX10_part_48 rfl rfl ?_
          refine j_get C dX10_part_49 jf_RX10_146 (wO mO) rfl ?_
          refine j_if_ne (tgt := 59) C dX10_part_52 (by decide) (fun c_52 => ?_) (fun c_52 => ?_)
          · skip
            skip
            refine j_iload_n C dX10_part_59 rfl rfl ?_
            refine hret _ _ _ _ dX10_part_60 rfl ?_
            rw [pa_n htc, fl_id hf24]
            exact oc_no hst hop
          · skip
            exact absurd c_52 fl_24
    · skip
      exact absurd c_12 hf24
set_option maxHeartbeats 4000000 in
set_option maxRecDepth 100000 in
theorem c_X10_read (l : Launch) (g : jG) (a : Nat → Nat) (x : mS) (t0 : Int32) (w : Int32) (b : Nat → Int32) (n t : Nat) (ht : t0 = nI t) (ht6 : t < 6) (hsz : x.1 2 t = nI n) (hn : n ≤ 160) (hb : ∀ i, i < n → x.1 1 (160 * t + i) = b i ∧ 0 ≤ b i) : Ci l g yX10_read cX10_read 6 .int 41 905 0 0 (mW g a) [.ref (a 0), .int t0, .int w] x (fun r z => rdP x z b n w r) := by
  refine mk_i (by decide +kernel) rfl (fun KK hKl hKg C hin hret => ?_)
  subst hKl; subst hKg
  refine j_lv (lv' := [(0, _), (1, _), (2, _)]) rfl ?_
  refine j_aload_n C dX10_read_0 rfl rfl ?_
  refine j_sipush (v := 160) C dX10_read_1 rfl ?_
  refine j_iload_n C dX10_read_4 rfl rfl ?_
  refine j_imul C dX10_read_5 ?_
  refine j_put C dX10_read_6 jp_RX10_117 (wO mO) (Nat.le_of_ble_eq_true rfl) rfl rfl (sMo 17 _ rfl) ?_
  refine j_aload_n C dX10_read_9 rfl rfl ?_
  refine j_aload_n C dX10_read_10 rfl rfl ?_
  refine j_get C dX10_read_11 jf_RX10_17 (wO mO) rfl ?_
  refine j_iload_n C dX10_read_14 rfl rfl ?_
  refine j_iald C (t) dX10_read_15 (wA mA2) (ht) (ht6) (by decide) ?_
  refine j_put C dX10_read_16 jp_RX10_114 (wO mO) (Nat.le_of_ble_eq_true rfl) rfl rfl (sMo 18 _ rfl) ?_
  refine j_aload_n C dX10_read_19 rfl rfl ?_
  refine j_iconst (v := 0) C dX10_read_20 rfl ?_
  refine j_put C dX10_read_21 jp_RX10_120 (wO mO) (Nat.le_of_ble_eq_true rfl) rfl rfl (sMo 19 _ rfl) ?_
  refine j_aload_n C dX10_read_24 rfl rfl ?_
  refine j_iconst (v := 0) C dX10_read_25 rfl ?_
  refine j_put C dX10_read_26 jp_RX10_157 (wO mO) (Nat.le_of_ble_eq_true rfl) rfl rfl (sMo 23 _ rfl) ?_
  refine j_aload_n C dX10_read_29 rfl rfl ?_
  refine j_iconst (v := 0) C dX10_read_30 rfl ?_
  refine j_put C dX10_read_31 jp_RX10_146 (wO mO) (Nat.le_of_ble_eq_true rfl) rfl rfl (sMo 24 _ rfl) ?_
  have hsz0 : (mU x 0 17 (160 * t0)).1 2 t = nI n := by rw [mU_1, uM_ne (by decide)]; exact hsz
  rw [hsz0]
  have hg0 : mG x (mU (mU (mU (mU (mU x 0 17 (160 * t0)) 0 18 (nI n)) 0 19 0) 0 23 0) 0 24 0) := mG_1 (mG_1 (mG_1 (mG_1 (mG_1 mG_r (by decide)) (by decide)) (by decide)) (by decide)) (by decide)
  have hrb0 : rbM (mU (mU (mU (mU (mU x 0 17 (160 * t0)) 0 18 (nI n)) 0 19 0) 0 23 0) 0 24 0) b n t := ⟨by rw [mU_1, uM_n (by decide), mU_1, uM_n (by decide), mU_1, uM_n (by decide), mU_1, uM_n (by decide), mU_1, uM_s, ht]; exact pk_mul 160 t, ht6, by rw [mU_1, uM_n (by decide), mU_1, uM_n (by decide), mU_1, uM_n (by decide), mU_1, uM_s], hn, fun i hi => by rw [hg0.1 1 (by decide)]; exact hb i hi⟩
  refine j_aload_n C dX10_read_34 rfl rfl ?_
  refine j_callvv C (c_X10_next _ _ _ _  b n t 0 hrb0 (by rw [mU_1, uM_n (by decide), mU_1, uM_n (by decide), mU_1, uM_s]; rfl) (by omega)) dX10_read_35 jm_RX10_163 ⟨_, _, _, _, wO mO, rfl, rfl⟩ ⟨by decide, by decide, by decide, by decide⟩ rfl (Nat.le_of_ble_eq_true rfl) (fun z_35 hz_35 => ?_)
  obtain ⟨hn_35, ht_35⟩ := hz_35
  have hst1 : stM z_35 b n (psS b n 0) := ⟨by rw [hn_35.2 24 (by decide), mU_1, uM_s], ht_35⟩
  have hg1 : mG x z_35 := mG_m hg0 (nxF_m hn_35)
  have hrb1 : rbM z_35 b n t := rbM_m hrb0 (nxF_m hn_35)
  have hO1 : z_35.1 0 23 = nI 0 := by rw [hn_35.2 23 (by decide), mU_1, uM_n (by decide), mU_1, uM_s]; rfl
  have he1 : eM z_35 = eM x := eM_g hg1
  refine j_aload_n C dX10_read_38 rfl rfl ?_
  refine j_aload_n C dX10_read_39 rfl rfl ?_
  refine j_bipush (v := 115) C dX10_read_40 rfl ?_
  refine j_bipush (v := 104) C dX10_read_42 rfl ?_
  refine j_bipush (v := 111) C dX10_read_44 rfl ?_
  refine j_bipush (v := 119) C dX10_read_46 rfl ?_
  refine j_bipush (v := 115) C dX10_read_48 rfl ?_
  refine j_iconst (v := 0) C dX10_read_50 rfl ?_
  refine j_iconst (v := 0) C dX10_read_51 rfl ?_
  refine j_iconst (v := 0) C dX10_read_52 rfl ?_
  refine j_calliv C (c_X10_isWord _ _ _ _ _ _ _ _ _ _ _ _ 7 (by decide) rfl rfl rfl rfl rfl rfl rfl rfl b n t 0 (Or.inr ⟨hrb1, hst1⟩)) dX10_read_53 jm_RX10_166 ⟨_, _, _, _, wO mO, rfl, rfl⟩ ⟨by decide, by decide, by decide, by decide⟩ rfl (Nat.le_of_ble_eq_true rfl) (fun r_53 z_53 hz_53 => ?_)
  obtain ⟨hb_53, hz9⟩ := hz_53; have hz9 := hz9.symm; subst hz9
  refine j_calliv C (c_X10_part _ _ _ _ _ 7 b n t 0 hrb1 hO1 hst1 (by omega) (Or.inl rfl) (hb_53.elim (fun h => Or.inl ⟨h.1, h.2.2⟩) (fun h => Or.inr ⟨h.1, fun k => h.2 ⟨hst1.1, k⟩⟩))) dX10_read_56 jm_RX10_311 ⟨_, _, _, _, wO mO, rfl, rfl⟩ ⟨by decide, by decide, by decide, by decide⟩ rfl (Nat.le_of_ble_eq_true rfl) (fun r_56 z_56 hz_56 => ?_)
  have h56 : ocM z_35 z_56 b n 0 (tx1 (tcS b n) (tnS b n)) r_56 := hz_56
  have hg2 : mG x z_56 := mG_m hg1 h56.1
  refine j_istore_n (lv' := [(3, _), (0, _), (1, _), (2, _)]) C dX10_read_59 rfl (by decide) rfl ?_
  refine j_aload_n C dX10_read_60 rfl rfl ?_
  refine j_get C dX10_read_61 jf_RX10_146 (wO mO) rfl ?_
  refine j_if_eq (tgt := 71) C dX10_read_64 (by decide) (fun c_64 => ?_) (fun c_64 => ?_)
  · skip
    obtain ⟨hT1, hst2, hv1⟩ := oc_1 h56 c_64
    rw [he1] at hv1
    have hrb2 : rbM z_56 b n t := rbM_m hrb1 h56.1
    have hO2 := h56.2.1
    have hp2 : (tx1 (tcS b n) (tnS b n)).2.1 ≤ n := (paL_gd (tc := tcS b n) (tn := tnS b n) (N := n) (key := 7) tc_n (by decide) 0 [] (by omega)).2.1
    have he2 : eM z_56 = eM x := eM_g hg2
    refine j_aload_n C dX10_read_71 rfl rfl ?_
    refine j_aload_n C dX10_read_72 rfl rfl ?_
    refine j_bipush (v := 109) C dX10_read_73 rfl ?_
    refine j_bipush (v := 111) C dX10_read_75 rfl ?_
    refine j_bipush (v := 118) C dX10_read_77 rfl ?_
    refine j_bipush (v := 101) C dX10_read_79 rfl ?_
    refine j_bipush (v := 115) C dX10_read_81 rfl ?_
    refine j_iconst (v := 0) C dX10_read_83 rfl ?_
    refine j_iconst (v := 0) C dX10_read_84 rfl ?_
    refine j_iconst (v := 0) C dX10_read_85 rfl ?_
    refine j_calliv C (c_X10_isWord _ _ _ _ _ _ _ _ _ _ _ _ 8 (by decide) rfl rfl rfl rfl rfl rfl rfl rfl b n t (tx1 (tcS b n) (tnS b n)).2.1 (Or.inr ⟨hrb2, hst2⟩)) dX10_read_86 jm_RX10_166 ⟨_, _, _, _, wO mO, rfl, rfl⟩ ⟨by decide, by decide, by decide, by decide⟩ rfl (Nat.le_of_ble_eq_true rfl) (fun r_86 z_86 hz_86 => ?_)
    obtain ⟨hb_86, hz9⟩ := hz_86; have hz9 := hz9.symm; subst hz9
    refine j_calliv C (c_X10_part _ _ _ _ _ 8 b n t (tx1 (tcS b n) (tnS b n)).2.1 hrb2 hO2 hst2 hp2 (Or.inr (Or.inl rfl)) (hb_86.elim (fun h => Or.inl ⟨h.1, h.2.2⟩) (fun h => Or.inr ⟨h.1, fun k => h.2 ⟨hst2.1, k⟩⟩))) dX10_read_89 jm_RX10_311 ⟨_, _, _, _, wO mO, rfl, rfl⟩ ⟨by decide, by decide, by decide, by decide⟩ rfl (Nat.le_of_ble_eq_true rfl) (fun r_89 z_89 hz_89 => ?_)
    have h89 := hz_89
    have hg3 : mG x z_89 := mG_m hg2 h89.1
    refine j_istore (lv' := [(4, _), (3, _), (0, _), (1, _), (2, _)]) C dX10_read_92 (by decide) rfl ?_
    refine j_aload_n C dX10_read_94 rfl rfl ?_
    refine j_get C dX10_read_95 jf_RX10_146 (wO mO) rfl ?_
    refine j_if_eq (tgt := 105) C dX10_read_98 (by decide) (fun c_98 => ?_) (fun c_98 => ?_)
    · skip
      obtain ⟨hT2, hst3, hv2⟩ := oc_1 h89 c_98
      rw [he2] at hv2
      rw [tx2_e.1] at hT2
      rw [tx2_e.2] at hst3
      have hrb3 : rbM z_89 b n t := rbM_m hrb2 h89.1
      have hO3 := h89.2.1
      have hp3 : (tx2 (tcS b n) (tnS b n)).2.1 ≤ n := (paL_gd (tc := tcS b n) (tn := tnS b n) (N := n) (key := 8) tc_n (by decide) (tx1 (tcS b n) (tnS b n)).2.1 (tx1 (tcS b n) (tnS b n)).2.2 hp2).2.1
      have he3 : eM z_89 = eM x := eM_g hg3
      refine j_aload_n C dX10_read_105 rfl rfl ?_
      refine j_aload_n C dX10_read_106 rfl rfl ?_
      refine j_bipush (v := 109) C dX10_read_107 rfl ?_
      refine j_bipush (v := 105) C dX10_read_109 rfl ?_
      refine j_bipush (v := 110) C dX10_read_111 rfl ?_
      refine j_bipush (v := 100) C dX10_read_113 rfl ?_
      refine j_bipush (v := 115) C dX10_read_115 rfl ?_
      refine j_iconst (v := 0) C dX10_read_117 rfl ?_
      refine j_iconst (v := 0) C dX10_read_118 rfl ?_
      refine j_iconst (v := 0) C dX10_read_119 rfl ?_
      refine j_calliv C (c_X10_isWord _ _ _ _ _ _ _ _ _ _ _ _ 9 (by decide) rfl rfl rfl rfl rfl rfl rfl rfl b n t (tx2 (tcS b n) (tnS b n)).2.1 (Or.inr ⟨hrb3, hst3⟩)) dX10_read_120 jm_RX10_166 ⟨_, _, _, _, wO mO, rfl, rfl⟩ ⟨by decide, by decide, by decide, by decide⟩ rfl (Nat.le_of_ble_eq_true rfl) (fun r_120 z_120 hz_120 => ?_)
      obtain ⟨hb_120, hz9⟩ := hz_120; have hz9 := hz9.symm; subst hz9
      refine j_calliv C (c_X10_part _ _ _ _ _ 9 b n t (tx2 (tcS b n) (tnS b n)).2.1 hrb3 hO3 hst3 hp3 (Or.inr (Or.inr rfl)) (hb_120.elim (fun h => Or.inl ⟨h.1, h.2.2⟩) (fun h => Or.inr ⟨h.1, fun k => h.2 ⟨hst3.1, k⟩⟩))) dX10_read_123 jm_RX10_311 ⟨_, _, _, _, wO mO, rfl, rfl⟩ ⟨by decide, by decide, by decide, by decide⟩ rfl (Nat.le_of_ble_eq_true rfl) (fun r_123 z_123 hz_123 => ?_)
      have h123 := hz_123
      have hg4 : mG x z_123 := mG_m hg3 h123.1
      refine j_istore (lv' := [(5, _), (4, _), (3, _), (0, _), (1, _), (2, _)]) C dX10_read_126 (by decide) rfl ?_
      refine j_aload_n C dX10_read_128 rfl rfl ?_
      refine j_get C dX10_read_129 jf_RX10_146 (wO mO) rfl ?_
      refine j_if_ne (tgt := 146) C dX10_read_132 (by decide) (fun c_132 => ?_) (fun c_132 => ?_)
      · skip
        have hT3 : (tx3 (tcS b n) (tnS b n)).1 = false := by
          cases hq : (tx3 (tcS b n) (tnS b n)).1 with
          | false => rfl
          | true => exact absurd (oc_0 h123 (tx3_e.1.trans hq)) c_132
        have hfa := h123.2.2.resolve_left (fun k => by rw [tx3_e.1, hT3] at k; exact absurd k.1 (by decide))
        rw [tx3_e.2] at hfa
        have hfl : flS (tcS b n) (tnS b n) = some (tx3 (tcS b n) (tnS b n)).2.1 := by rw [flS, if_neg (by rw [hT1]; decide), if_neg (by rw [hT2]; decide), if_pos hT3]
        have hg5 := hg4
        refine j_iload_n C dX10_read_146 rfl rfl ?_
        refine j_if_ne (tgt := 154) C dX10_read_147 (by decide) (fun c_147 => ?_) (fun c_147 => ?_)
        · skip
          refine j_iload_n C dX10_read_154 rfl rfl ?_
          refine j_iconst (v := 1) C dX10_read_155 rfl ?_
          refine j_icmp_ne (tgt := 164) C dX10_read_156 (by decide) (fun c_156 => ?_) (fun c_156 => ?_)
          · skip
            refine j_iload C dX10_read_164 rfl ?_
            refine hret _ _ _ _ dX10_read_166 rfl ?_
            first
              | exact ⟨hg4, Or.inl ⟨hfl, c_132, by rw [if_pos c_147, td_0]; exact va_ru hv1⟩⟩
              | exact ⟨hg4, Or.inl ⟨hfl, c_132, by rw [if_neg c_147, if_pos c_156, td_1]; exact va_ru hv2⟩⟩
              | exact ⟨hg4, Or.inl ⟨hfl, c_132, by rw [if_neg c_147, if_neg c_156, td_2]; exact va_ru hv3⟩⟩
              | exact ⟨hg5, Or.inr ⟨_, hfl, hfa.2.1, hfa.2.2⟩⟩
              | exact ⟨hg3, Or.inr ⟨_, hfl, hfa.2.1, hfa.2.2⟩⟩
              | exact ⟨hg2, Or.inr ⟨_, hfl, hfa.2.1, hfa.2.2⟩⟩
          · skip
            refine j_iload C dX10_read_159 rfl ?_
            refine j_goto (tgt := 166) C dX10_read_161 (by decide) ?_
            refine hret _ _ _ _ dX10_read_166 rfl ?_
            first
              | exact ⟨hg4, Or.inl ⟨hfl, c_132, by rw [if_pos c_147, td_0]; exact va_ru hv1⟩⟩
              | exact ⟨hg4, Or.inl ⟨hfl, c_132, by rw [if_neg c_147, if_pos c_156, td_1]; exact va_ru hv2⟩⟩
              | exact ⟨hg4, Or.inl ⟨hfl, c_132, by rw [if_neg c_147, if_neg c_156, td_2]; exact va_ru hv3⟩⟩
              | exact ⟨hg5, Or.inr ⟨_, hfl, hfa.2.1, hfa.2.2⟩⟩
              | exact ⟨hg3, Or.inr ⟨_, hfl, hfa.2.1, hfa.2.2⟩⟩
              | exact ⟨hg2, Or.inr ⟨_, hfl, hfa.2.1, hfa.2.2⟩⟩
        · skip
          refine j_iload_n C dX10_read_150 rfl rfl ?_
          refine j_goto (tgt := 166) C dX10_read_151 (by decide) ?_
          refine hret _ _ _ _ dX10_read_166 rfl ?_
          first
            | exact ⟨hg4, Or.inl ⟨hfl, c_132, by rw [if_pos c_147, td_0]; exact va_ru hv1⟩⟩
            | exact ⟨hg4, Or.inl ⟨hfl, c_132, by rw [if_neg c_147, if_pos c_156, td_1]; exact va_ru hv2⟩⟩
            | exact ⟨hg4, Or.inl ⟨hfl, c_132, by rw [if_neg c_147, if_neg c_156, td_2]; exact va_ru hv3⟩⟩
            | exact ⟨hg5, Or.inr ⟨_, hfl, hfa.2.1, hfa.2.2⟩⟩
            | exact ⟨hg3, Or.inr ⟨_, hfl, hfa.2.1, hfa.2.2⟩⟩
            | exact ⟨hg2, Or.inr ⟨_, hfl, hfa.2.1, hfa.2.2⟩⟩
      · skip
        obtain ⟨hT3, hst4, hv3⟩ := oc_1 h123 c_132
        rw [he3] at hv3
        rw [tx3_e.1] at hT3
        rw [tx3_e.2] at hst4
        refine j_aload_n C dX10_read_135 rfl rfl ?_
        refine j_get C dX10_read_136 jf_RX10_129 (wO mO) rfl ?_
        refine j_if_eq (tgt := 146) C dX10_read_139 (by decide) (fun c_139 => ?_) (fun c_139 => ?_)
        · skip
          have hfl : flS (tcS b n) (tnS b n) = none := by rw [flS, if_neg (by rw [hT1]; decide), if_neg (by rw [hT2]; decide), if_neg (by rw [hT3]; decide), if_pos (kd_end.mp (hst4.2.2.2.1.symm.trans c_139))]
          refine j_iload_n C dX10_read_146 rfl rfl ?_
          refine j_if_ne (tgt := 154) C dX10_read_147 (by decide) (fun c_147 => ?_) (fun c_147 => ?_)
          · skip
            refine j_iload_n C dX10_read_154 rfl rfl ?_
            refine j_iconst (v := 1) C dX10_read_155 rfl ?_
            refine j_icmp_ne (tgt := 164) C dX10_read_156 (by decide) (fun c_156 => ?_) (fun c_156 => ?_)
            · skip
              refine j_iload C dX10_read_164 rfl ?_
              refine hret _ _ _ _ dX10_read_166 rfl ?_
              first
                | exact ⟨hg4, Or.inl ⟨hfl, c_132, by rw [if_pos c_147, td_0]; exact va_ru hv1⟩⟩
                | exact ⟨hg4, Or.inl ⟨hfl, c_132, by rw [if_neg c_147, if_pos c_156, td_1]; exact va_ru hv2⟩⟩
                | exact ⟨hg4, Or.inl ⟨hfl, c_132, by rw [if_neg c_147, if_neg c_156, td_2]; exact va_ru hv3⟩⟩
                | exact ⟨hg5, Or.inr ⟨_, hfl, hfa.2.1, hfa.2.2⟩⟩
                | exact ⟨hg3, Or.inr ⟨_, hfl, hfa.2.1, hfa.2.2⟩⟩
                | exact ⟨hg2, Or.inr ⟨_, hfl, hfa.2.1, hfa.2.2⟩⟩
            · skip
              refine j_iload C dX10_read_159 rfl ?_
              refine j_goto (tgt := 166) C dX10_read_161 (by decide) ?_
              refine hret _ _ _ _ dX10_read_166 rfl ?_
              first
                | exact ⟨hg4, Or.inl ⟨hfl, c_132, by rw [if_pos c_147, td_0]; exact va_ru hv1⟩⟩
                | exact ⟨hg4, Or.inl ⟨hfl, c_132, by rw [if_neg c_147, if_pos c_156, td_1]; exact va_ru hv2⟩⟩
                | exact ⟨hg4, Or.inl ⟨hfl, c_132, by rw [if_neg c_147, if_neg c_156, td_2]; exact va_ru hv3⟩⟩
                | exact ⟨hg5, Or.inr ⟨_, hfl, hfa.2.1, hfa.2.2⟩⟩
                | exact ⟨hg3, Or.inr ⟨_, hfl, hfa.2.1, hfa.2.2⟩⟩
                | exact ⟨hg2, Or.inr ⟨_, hfl, hfa.2.1, hfa.2.2⟩⟩
          · skip
            refine j_iload_n C dX10_read_150 rfl rfl ?_
            refine j_goto (tgt := 166) C dX10_read_151 (by decide) ?_
            refine hret _ _ _ _ dX10_read_166 rfl ?_
            first
              | exact ⟨hg4, Or.inl ⟨hfl, c_132, by rw [if_pos c_147, td_0]; exact va_ru hv1⟩⟩
              | exact ⟨hg4, Or.inl ⟨hfl, c_132, by rw [if_neg c_147, if_pos c_156, td_1]; exact va_ru hv2⟩⟩
              | exact ⟨hg4, Or.inl ⟨hfl, c_132, by rw [if_neg c_147, if_neg c_156, td_2]; exact va_ru hv3⟩⟩
              | exact ⟨hg5, Or.inr ⟨_, hfl, hfa.2.1, hfa.2.2⟩⟩
              | exact ⟨hg3, Or.inr ⟨_, hfl, hfa.2.1, hfa.2.2⟩⟩
              | exact ⟨hg2, Or.inr ⟨_, hfl, hfa.2.1, hfa.2.2⟩⟩
        · skip
          have hfl : flS (tcS b n) (tnS b n) = some (tx3 (tcS b n) (tnS b n)).2.1 := by rw [flS, if_neg (by rw [hT1]; decide), if_neg (by rw [hT2]; decide), if_neg (by rw [hT3]; decide), if_neg (fun h => c_139 (hst4.2.2.2.1.trans (kd_end.mpr h)))]
          have hfa : True ∧ ¬ (flM z_123).1 0 24 = 0 ∧ (flM z_123).1 0 25 = nI (psS b n (tx3 (tcS b n) (tnS b n)).2.1) := ⟨trivial, fl_24, fl_25 ⟨fun _ => hst4.2.1, fun h => absurd hst4.1 h⟩⟩
          have hg5 : mG x (flM z_123) := mG_m hg4 flM_m
          refine j_aload_n C dX10_read_142 rfl rfl ?_
          refine j_callvv C (c_X10_fail _ _ _ _  ) dX10_read_143 jm_RX10_160 ⟨_, _, _, _, wO mO, rfl, rfl⟩ ⟨by decide, by decide, by decide, by decide⟩ rfl (Nat.le_of_ble_eq_true rfl) (fun z_143 hz_143 => ?_)
          have hz_143 := hz_143.symm; subst hz_143
          refine j_iload_n C dX10_read_146 rfl rfl ?_
          refine j_if_ne (tgt := 154) C dX10_read_147 (by decide) (fun c_147 => ?_) (fun c_147 => ?_)
          · skip
            refine j_iload_n C dX10_read_154 rfl rfl ?_
            refine j_iconst (v := 1) C dX10_read_155 rfl ?_
            refine j_icmp_ne (tgt := 164) C dX10_read_156 (by decide) (fun c_156 => ?_) (fun c_156 => ?_)
            · skip
              refine j_iload C dX10_read_164 rfl ?_
              refine hret _ _ _ _ dX10_read_166 rfl ?_
              first
                | exact ⟨hg4, Or.inl ⟨hfl, c_132, by rw [if_pos c_147, td_0]; exact va_ru hv1⟩⟩
                | exact ⟨hg4, Or.inl ⟨hfl, c_132, by rw [if_neg c_147, if_pos c_156, td_1]; exact va_ru hv2⟩⟩
                | exact ⟨hg4, Or.inl ⟨hfl, c_132, by rw [if_neg c_147, if_neg c_156, td_2]; exact va_ru hv3⟩⟩
                | exact ⟨hg5, Or.inr ⟨_, hfl, hfa.2.1, hfa.2.2⟩⟩
                | exact ⟨hg3, Or.inr ⟨_, hfl, hfa.2.1, hfa.2.2⟩⟩
                | exact ⟨hg2, Or.inr ⟨_, hfl, hfa.2.1, hfa.2.2⟩⟩
            · skip
              refine j_iload C dX10_read_159 rfl ?_
              refine j_goto (tgt := 166) C dX10_read_161 (by decide) ?_
              refine hret _ _ _ _ dX10_read_166 rfl ?_
              first
                | exact ⟨hg4, Or.inl ⟨hfl, c_132, by rw [if_pos c_147, td_0]; exact va_ru hv1⟩⟩
                | exact ⟨hg4, Or.inl ⟨hfl, c_132, by rw [if_neg c_147, if_pos c_156, td_1]; exact va_ru hv2⟩⟩
                | exact ⟨hg4, Or.inl ⟨hfl, c_132, by rw [if_neg c_147, if_neg c_156, td_2]; exact va_ru hv3⟩⟩
                | exact ⟨hg5, Or.inr ⟨_, hfl, hfa.2.1, hfa.2.2⟩⟩
                | exact ⟨hg3, Or.inr ⟨_, hfl, hfa.2.1, hfa.2.2⟩⟩
                | exact ⟨hg2, Or.inr ⟨_, hfl, hfa.2.1, hfa.2.2⟩⟩
          · skip
            refine j_iload_n C dX10_read_150 rfl rfl ?_
            refine j_goto (tgt := 166) C dX10_read_151 (by decide) ?_
            refine hret _ _ _ _ dX10_read_166 rfl ?_
            first
              | exact ⟨hg4, Or.inl ⟨hfl, c_132, by rw [if_pos c_147, td_0]; exact va_ru hv1⟩⟩
              | exact ⟨hg4, Or.inl ⟨hfl, c_132, by rw [if_neg c_147, if_pos c_156, td_1]; exact va_ru hv2⟩⟩
              | exact ⟨hg4, Or.inl ⟨hfl, c_132, by rw [if_neg c_147, if_neg c_156, td_2]; exact va_ru hv3⟩⟩
              | exact ⟨hg5, Or.inr ⟨_, hfl, hfa.2.1, hfa.2.2⟩⟩
              | exact ⟨hg3, Or.inr ⟨_, hfl, hfa.2.1, hfa.2.2⟩⟩
              | exact ⟨hg2, Or.inr ⟨_, hfl, hfa.2.1, hfa.2.2⟩⟩
    · skip
      have hT2 : (tx2 (tcS b n) (tnS b n)).1 = false := by
        cases hq : (tx2 (tcS b n) (tnS b n)).1 with
        | false => rfl
        | true => exact absurd (oc_0 h89 (tx2_e.1.trans hq)) c_98
      have hfa := h89.2.2.resolve_left (fun k => by rw [tx2_e.1, hT2] at k; exact absurd k.1 (by decide))
      rw [tx2_e.2] at hfa
      have hfl : flS (tcS b n) (tnS b n) = some (tx2 (tcS b n) (tnS b n)).2.1 := by rw [flS, if_neg (by rw [hT1]; decide), if_pos hT2]
      refine j_iconst (v := 0) C dX10_read_101 rfl ?_
      refine j_goto (tgt := 126) C dX10_read_102 (by decide) ?_
      refine j_istore (lv' := [(5, _), (4, _), (3, _), (0, _), (1, _), (2, _)]) C dX10_read_126 (by decide) rfl ?_
      refine j_aload_n C dX10_read_128 rfl rfl ?_
      refine j_get C dX10_read_129 jf_RX10_146 (wO mO) rfl ?_
      refine j_if_ne (tgt := 146) C dX10_read_132 (by decide) (fun c_132 => ?_) (fun c_132 => ?_)
      · skip
        skip
        refine j_iload_n C dX10_read_146 rfl rfl ?_
        refine j_if_ne (tgt := 154) C dX10_read_147 (by decide) (fun c_147 => ?_) (fun c_147 => ?_)
        · skip
          refine j_iload_n C dX10_read_154 rfl rfl ?_
          refine j_iconst (v := 1) C dX10_read_155 rfl ?_
          refine j_icmp_ne (tgt := 164) C dX10_read_156 (by decide) (fun c_156 => ?_) (fun c_156 => ?_)
          · skip
            refine j_iload C dX10_read_164 rfl ?_
            refine hret _ _ _ _ dX10_read_166 rfl ?_
            first
              | exact ⟨hg4, Or.inl ⟨hfl, c_132, by rw [if_pos c_147, td_0]; exact va_ru hv1⟩⟩
              | exact ⟨hg4, Or.inl ⟨hfl, c_132, by rw [if_neg c_147, if_pos c_156, td_1]; exact va_ru hv2⟩⟩
              | exact ⟨hg4, Or.inl ⟨hfl, c_132, by rw [if_neg c_147, if_neg c_156, td_2]; exact va_ru hv3⟩⟩
              | exact ⟨hg5, Or.inr ⟨_, hfl, hfa.2.1, hfa.2.2⟩⟩
              | exact ⟨hg3, Or.inr ⟨_, hfl, hfa.2.1, hfa.2.2⟩⟩
              | exact ⟨hg2, Or.inr ⟨_, hfl, hfa.2.1, hfa.2.2⟩⟩
          · skip
            refine j_iload C dX10_read_159 rfl ?_
            refine j_goto (tgt := 166) C dX10_read_161 (by decide) ?_
            refine hret _ _ _ _ dX10_read_166 rfl ?_
            first
              | exact ⟨hg4, Or.inl ⟨hfl, c_132, by rw [if_pos c_147, td_0]; exact va_ru hv1⟩⟩
              | exact ⟨hg4, Or.inl ⟨hfl, c_132, by rw [if_neg c_147, if_pos c_156, td_1]; exact va_ru hv2⟩⟩
              | exact ⟨hg4, Or.inl ⟨hfl, c_132, by rw [if_neg c_147, if_neg c_156, td_2]; exact va_ru hv3⟩⟩
              | exact ⟨hg5, Or.inr ⟨_, hfl, hfa.2.1, hfa.2.2⟩⟩
              | exact ⟨hg3, Or.inr ⟨_, hfl, hfa.2.1, hfa.2.2⟩⟩
              | exact ⟨hg2, Or.inr ⟨_, hfl, hfa.2.1, hfa.2.2⟩⟩
        · skip
          refine j_iload_n C dX10_read_150 rfl rfl ?_
          refine j_goto (tgt := 166) C dX10_read_151 (by decide) ?_
          refine hret _ _ _ _ dX10_read_166 rfl ?_
          first
            | exact ⟨hg4, Or.inl ⟨hfl, c_132, by rw [if_pos c_147, td_0]; exact va_ru hv1⟩⟩
            | exact ⟨hg4, Or.inl ⟨hfl, c_132, by rw [if_neg c_147, if_pos c_156, td_1]; exact va_ru hv2⟩⟩
            | exact ⟨hg4, Or.inl ⟨hfl, c_132, by rw [if_neg c_147, if_neg c_156, td_2]; exact va_ru hv3⟩⟩
            | exact ⟨hg5, Or.inr ⟨_, hfl, hfa.2.1, hfa.2.2⟩⟩
            | exact ⟨hg3, Or.inr ⟨_, hfl, hfa.2.1, hfa.2.2⟩⟩
            | exact ⟨hg2, Or.inr ⟨_, hfl, hfa.2.1, hfa.2.2⟩⟩
      · skip
        exact absurd c_132 c_98
  · skip
    have hT1 : (tx1 (tcS b n) (tnS b n)).1 = false := by
      cases hq : (tx1 (tcS b n) (tnS b n)).1 with
      | false => rfl
      | true => exact absurd (oc_0 h56 hq) c_64
    have hfa := h56.2.2.resolve_left (fun k => by rw [hT1] at k; exact absurd k.1 (by decide))
    have hfl : flS (tcS b n) (tnS b n) = some (tx1 (tcS b n) (tnS b n)).2.1 := by rw [flS, if_pos hT1]
    refine j_iconst (v := 0) C dX10_read_67 rfl ?_
    refine j_goto (tgt := 92) C dX10_read_68 (by decide) ?_
    refine j_istore (lv' := [(4, _), (3, _), (0, _), (1, _), (2, _)]) C dX10_read_92 (by decide) rfl ?_
    refine j_aload_n C dX10_read_94 rfl rfl ?_
    refine j_get C dX10_read_95 jf_RX10_146 (wO mO) rfl ?_
    refine j_if_eq (tgt := 105) C dX10_read_98 (by decide) (fun c_98 => ?_) (fun c_98 => ?_)
    · skip
      exact absurd c_98 c_64
    · skip
      skip
      refine j_iconst (v := 0) C dX10_read_101 rfl ?_
      refine j_goto (tgt := 126) C dX10_read_102 (by decide) ?_
      refine j_istore (lv' := [(5, _), (4, _), (3, _), (0, _), (1, _), (2, _)]) C dX10_read_126 (by decide) rfl ?_
      refine j_aload_n C dX10_read_128 rfl rfl ?_
      refine j_get C dX10_read_129 jf_RX10_146 (wO mO) rfl ?_
      refine j_if_ne (tgt := 146) C dX10_read_132 (by decide) (fun c_132 => ?_) (fun c_132 => ?_)
      · skip
        skip
        refine j_iload_n C dX10_read_146 rfl rfl ?_
        refine j_if_ne (tgt := 154) C dX10_read_147 (by decide) (fun c_147 => ?_) (fun c_147 => ?_)
        · skip
          refine j_iload_n C dX10_read_154 rfl rfl ?_
          refine j_iconst (v := 1) C dX10_read_155 rfl ?_
          refine j_icmp_ne (tgt := 164) C dX10_read_156 (by decide) (fun c_156 => ?_) (fun c_156 => ?_)
          · skip
            refine j_iload C dX10_read_164 rfl ?_
            refine hret _ _ _ _ dX10_read_166 rfl ?_
            first
              | exact ⟨hg4, Or.inl ⟨hfl, c_132, by rw [if_pos c_147, td_0]; exact va_ru hv1⟩⟩
              | exact ⟨hg4, Or.inl ⟨hfl, c_132, by rw [if_neg c_147, if_pos c_156, td_1]; exact va_ru hv2⟩⟩
              | exact ⟨hg4, Or.inl ⟨hfl, c_132, by rw [if_neg c_147, if_neg c_156, td_2]; exact va_ru hv3⟩⟩
              | exact ⟨hg5, Or.inr ⟨_, hfl, hfa.2.1, hfa.2.2⟩⟩
              | exact ⟨hg3, Or.inr ⟨_, hfl, hfa.2.1, hfa.2.2⟩⟩
              | exact ⟨hg2, Or.inr ⟨_, hfl, hfa.2.1, hfa.2.2⟩⟩
          · skip
            refine j_iload C dX10_read_159 rfl ?_
            refine j_goto (tgt := 166) C dX10_read_161 (by decide) ?_
            refine hret _ _ _ _ dX10_read_166 rfl ?_
            first
              | exact ⟨hg4, Or.inl ⟨hfl, c_132, by rw [if_pos c_147, td_0]; exact va_ru hv1⟩⟩
              | exact ⟨hg4, Or.inl ⟨hfl, c_132, by rw [if_neg c_147, if_pos c_156, td_1]; exact va_ru hv2⟩⟩
              | exact ⟨hg4, Or.inl ⟨hfl, c_132, by rw [if_neg c_147, if_neg c_156, td_2]; exact va_ru hv3⟩⟩
              | exact ⟨hg5, Or.inr ⟨_, hfl, hfa.2.1, hfa.2.2⟩⟩
              | exact ⟨hg3, Or.inr ⟨_, hfl, hfa.2.1, hfa.2.2⟩⟩
              | exact ⟨hg2, Or.inr ⟨_, hfl, hfa.2.1, hfa.2.2⟩⟩
        · skip
          refine j_iload_n C dX10_read_150 rfl rfl ?_
          refine j_goto (tgt := 166) C dX10_read_151 (by decide) ?_
          refine hret _ _ _ _ dX10_read_166 rfl ?_
          first
            | exact ⟨hg4, Or.inl ⟨hfl, c_132, by rw [if_pos c_147, td_0]; exact va_ru hv1⟩⟩
            | exact ⟨hg4, Or.inl ⟨hfl, c_132, by rw [if_neg c_147, if_pos c_156, td_1]; exact va_ru hv2⟩⟩
            | exact ⟨hg4, Or.inl ⟨hfl, c_132, by rw [if_neg c_147, if_neg c_156, td_2]; exact va_ru hv3⟩⟩
            | exact ⟨hg5, Or.inr ⟨_, hfl, hfa.2.1, hfa.2.2⟩⟩
            | exact ⟨hg3, Or.inr ⟨_, hfl, hfa.2.1, hfa.2.2⟩⟩
            | exact ⟨hg2, Or.inr ⟨_, hfl, hfa.2.1, hfa.2.2⟩⟩
      · skip
        exact absurd c_132 c_64
