def cnS (w : Int32) : Int32 := if w = 0 ∨ w = 1 ∨ w = 4 then 20 else if w = 2 ∨ w = 6 then 2 else if w = 3 then 10 else if w = 5 then 5 else 0
abbrev seOk (c w o v : Int32) : Prop := (0 ≤ v ∧ v < cnS w) ∧ (w ≤ 2 ∨ (0 ≤ o ∧ o < c))
/-- told: h her walk, r the glove -/
def tdS (h r : Nat → Int32) (w : Int32) : Int32 := if w = 0 then h 0 else if w = 1 then h 1 else if w ≤ 2 then h 2 else if w = 3 then r 1 else if w = 4 then r 2 else if w = 5 then r 3 else if w = 6 then r 4 else if w = 7 then r 0 else laS r
abbrev glOk (k m p : Int32) : Prop := (0 ≤ k ∧ k < 6) ∧ (0 ≤ m ∧ m < 10) ∧ (0 ≤ p ∧ p < 20)
def cmX (M : Nat → Nat → Int32) (K : Nat) (k m p : Int32) : Nat → Nat → Int32 := uM (uM (uM (uM (uM M K 0 k) K 1 m) K 2 p) K 3 2) K 4 0
/-- one more glove, if there is room -/
def hgX (M : Nat → Nat → Int32) (n : Nat) (k m p : Int32) : Nat → Nat → Int32 := uM (cmX M (28 + n) k m p) 0 1 (nI (n + 1))
def undF (k : Int32) : Nat → Int32 → Prop
  | 0, _ => False
  | f + 1, x => (0 ≤ x ∧ x < 6) ∧ (x = k ∨ undF k f (abv x.toNatClampNeg))
theorem cn_0 {w : Int32} (h : 0 < cnS w) : 0 ≤ w ∧ w ≤ 6 := by
  unfold cnS at h
  simp only [Int32.lt_iff_toInt_lt, Int32.le_iff_toInt_le, ← Int32.toInt_inj, Int32.reduceToInt] at *
  repeat' split at h
  all_goals (first | omega | (simp only [Int32.reduceToInt] at h; omega))

set_option maxHeartbeats 4000000 in
set_option maxRecDepth 100000 in
theorem c_X9_otherwiseOn (l : Launch) (g : jG) (a : Nat → Nat) (M : (Nat → Nat → Int32)) (K : Nat) (hK : isRw K) (G : Nat) (hG : isGl G) (Kt : Nat) (hKt : isTx Kt) (T : Nat → List Int32) (hT : txR M Kt T) (sz : Nat) (hsz : M K 2 = nI sz) (hs : sz ≤ 30) : Ci l g yX9_otherwiseOn cX9_otherwiseOn 5 .int 4 96 0 0 (cW g a) [.ref (a 0), .ref (a K), .ref (a G), .ref (a Kt)] M (fun r z => r = osS (M (K + 1)) (whS T (M G) (M 2 0)) sz 0 ∧ ∀ k, (k < 21 ∨ 25 < k) → z k = M k) := by
  refine mk_i (by decide +kernel) rfl (fun KK hKl hKg C hin hret => ?_)
  subst hKl; subst hKg
  refine j_lv (lv' := [(0, _), (1, _), (2, _), (3, _)]) rfl ?_
  have hKr := isRw_c hK
  refine j_aload_n C dX9_otherwiseOn_0 rfl rfl ?_
  refine j_get C dX9_otherwiseOn_1 jf_RX9_51 (wO cX0) rfl ?_
  refine j_aload_n C dX9_otherwiseOn_4 rfl rfl ?_
  refine j_aload_n C dX9_otherwiseOn_5 rfl rfl ?_
  refine j_aload_n C dX9_otherwiseOn_6 rfl rfl ?_
  refine j_get C dX9_otherwiseOn_7 jf_RX9_18 (wO cX0) rfl ?_
  refine j_get C dX9_otherwiseOn_10 jf_RX9_121 (wO (cWk (Or.inl rfl))) rfl ?_
  refine j_callvv C (c_X0_follow _ _ _ _ Kt hKt G hG _ T hT) dX9_otherwiseOn_13 jm_RX9_209 ⟨_, _, _, _, wO cCo, rfl, rfl⟩ ⟨by decide, by decide, by decide, by decide⟩ rfl (Nat.le_of_ble_eq_true rfl) (fun z_13 hz_13 => ?_)
  obtain ⟨zf_13, zw_13⟩ := hz_13
  refine j_iconst (v := 0) C dX9_otherwiseOn_16 rfl ?_
  refine j_istore (lv' := [(4, _), (0, _), (1, _), (2, _), (3, _)]) C dX9_otherwiseOn_17 (by decide) rfl ?_
  have L_19 : ∀ k : Nat, ∀ (d : Nat), d ≤ sz → sz < d + k → (osS (M (K + 1)) (whS T (M G) (M 2 0)) sz 0 = osS (M (K + 1)) (whS T (M G) (M 2 0)) (sz - d) d) → J KK (cW (kG KK) a) 0 0 z_13 [(0, .ref (a 0)), (1, .ref (a K)), (2, .ref (a G)), (3, .ref (a Kt)), (4, .int (nI d))] 19 [] := by
    intro k
    induction k with
    | zero => intro d h1 hk ho; omega
    | succ k ih =>
      intro d h1 hk ho
      have e_d : (nI d).toInt = d := nI_toInt (by omega); have e_sz : (nI sz).toInt = sz := nI_toInt (by omega)
      have h2 : z_13 K 2 = nI sz := by rw [zf_13 K (by omega) (by omega) (by omega)]; exact hsz
      refine j_iload C dX9_otherwiseOn_19 rfl ?_
      refine j_aload_n C dX9_otherwiseOn_21 rfl rfl ?_
      refine j_getN C dX9_otherwiseOn_22 jfn_RX9_234 (wO (cRw hK)) rfl ?_
      refine j_icmp_ge (tgt := 62) C dX9_otherwiseOn_25 (by decide) (fun c_1 => ?_) (fun c_1 => ?_)
      · skip
        have hd : sz - d = 0 := by rw [h2] at c_1; simp only [Int32.lt_iff_toInt_lt, Int32.le_iff_toInt_le, ← Int32.toInt_inj, Int32.reduceToInt, e_d, e_sz] at c_1; omega
        refine j_iconst (v := -1) C dX9_otherwiseOn_62 rfl ?_
        refine hret _ _ _ _ dX9_otherwiseOn_63 rfl ?_
        exact ⟨by rw [ho, hd]; rfl, fun k hk => zf_13 k (by omega) (by omega) (by omega)⟩
      · skip
        have hd : d < sz := by rw [h2] at c_1; simp only [Int32.lt_iff_toInt_lt, Int32.le_iff_toInt_le, ← Int32.toInt_inj, Int32.reduceToInt, e_d, e_sz] at c_1; omega
        refine j_iload C dX9_otherwiseOn_28 rfl ?_
        refine j_bipush (v := 30) C dX9_otherwiseOn_30 rfl ?_
        refine j_icmp_ge (tgt := 62) C dX9_otherwiseOn_32 (by decide) (fun c_2 => ?_) (fun c_2 => ?_)
        · skip
          exact absurd c_2 (nI_ge (show d < 30 by omega) (by decide))
        · skip
          refine j_aload_n C dX9_otherwiseOn_35 rfl rfl ?_
          refine j_iload C dX9_otherwiseOn_36 rfl ?_
          refine j_calliv C (c_X5_itemAt _ _ _ _ K hK _ ) dX9_otherwiseOn_38 jm_RX9_243 ⟨_, _, _, _, wO (cRw hK), rfl, rfl⟩ ⟨by decide, by decide, by decide, by decide⟩ rfl (Nat.le_of_ble_eq_true rfl) (fun r_38 z_38 hz_38 => ?_)
          obtain ⟨hr, hz⟩ := hz_38; have hz := hz.symm; subst hz
          rw [if_pos ⟨nI_pos' (by omega), by rw [h2]; exact nI_lt hd (by omega), nI_lt (b := 40) (by omega) (by decide)⟩, nI_clamp (by omega), zf_13 (K + 1) (by omega) (by omega) (by omega)] at hr
          have hr := hr.symm; subst hr
          refine j_aload_n C dX9_otherwiseOn_41 rfl rfl ?_
          refine j_get C dX9_otherwiseOn_42 jf_RX9_51 (wO cX0) rfl ?_
          refine j_iload C dX9_otherwiseOn_45 rfl ?_
          refine j_calliv C (c_X0_whereOn _ _ _ _ _ d rfl (by omega)) dX9_otherwiseOn_47 jm_RX9_177 ⟨_, _, _, _, wO cCo, rfl, rfl⟩ ⟨by decide, by decide, by decide, by decide⟩ rfl (Nat.le_of_ble_eq_true rfl) (fun r z hz => ?_)
          obtain ⟨hr, hz⟩ := hz; have hr := hr.symm; have hz := hz.symm; subst hr; subst hz
          refine j_icmp_eq (tgt := 56) C dX9_otherwiseOn_50 (by decide) (fun c_50 => ?_) (fun c_50 => ?_)
          · skip
            have heq : M (K + 1) d = whS T (M G) (M 2 0) d := by rw [zw_13 d (by omega)] at c_50; exact c_50
            refine j_iinc (lv' := [(4, _), (0, _), (1, _), (2, _), (3, _)]) (v := nI (d + 1)) C dX9_otherwiseOn_56 rfl (j_inc1 d) (by decide) rfl ?_
            refine j_goto (tgt := 19) C dX9_otherwiseOn_59 (by decide) ?_
            refine j_lv (lv' := [(0, _), (1, _), (2, _), (3, _), (4, _)]) rfl ?_
            obtain ⟨m, hm⟩ : ∃ m, sz - d = m + 1 := ⟨sz - d - 1, by omega⟩
            exact ih (d + 1) (by omega) (by omega) (by rw [ho, hm, show sz - (d + 1) = m by omega, osS, if_pos heq])
          · skip
            have hne : ¬ M (K + 1) d = whS T (M G) (M 2 0) d := by rw [zw_13 d (by omega)] at c_50; exact c_50
            refine j_iload C dX9_otherwiseOn_53 rfl ?_
            refine hret _ _ _ _ dX9_otherwiseOn_55 rfl ?_
            refine ⟨?_, fun k hk => zf_13 k (by omega) (by omega) (by omega)⟩
            obtain ⟨m, hm⟩ : ∃ m, sz - d = m + 1 := ⟨sz - d - 1, by omega⟩
            rw [ho, hm, osS, if_neg hne]
  refine j_lv (lv' := [(0, _), (1, _), (2, _), (3, _), (4, _)]) rfl ?_
  exact L_19 (sz + 1) 0 (by omega) (by omega) rfl
set_option maxHeartbeats 4000000 in
set_option maxRecDepth 100000 in
theorem c_X9_triesOf (l : Launch) (g : jG) (a : Nat → Nat) (M : (Nat → Nat → Int32)) (w : Int32) (t : Nat) (ht : M 0 4 = nI t) : Ci l g yX9_triesOf cX9_triesOf 2 .int 0 0 0 0 (cW g a) [.ref (a 0), .int w] M (fun r z => r = nI (trS w t) ∧ z = M) := by
  refine mk_i (by decide +kernel) rfl (fun KK hKl hKg C hin hret => ?_)
  subst hKl; subst hKg
  refine j_lv (lv' := [(0, _), (1, _)]) rfl ?_
  refine j_iload_n C dX9_triesOf_0 rfl rfl ?_
  by_cases s_1 : w = 1
  · refine j_tableIn (off := 31) (tgt := 32) C dX9_triesOf_1 (by rw [s_1]; decide) (by rw [s_1]; decide) (by rw [s_1]; rfl) (by decide) ?_
    refine j_bipush (v := 6) C dX9_triesOf_32 rfl ?_
    refine hret _ _ _ _ dX9_triesOf_34 rfl ?_
    refine ⟨?_, rfl⟩; simp [trS, *]; try rfl
  by_cases s_2 : w = 2
  · refine j_tableIn (off := 34) (tgt := 35) C dX9_triesOf_1 (by rw [s_2]; decide) (by rw [s_2]; decide) (by rw [s_2]; rfl) (by decide) ?_
    refine j_bipush (v := 10) C dX9_triesOf_35 rfl ?_
    refine hret _ _ _ _ dX9_triesOf_37 rfl ?_
    refine ⟨?_, rfl⟩; simp [trS, *]; try rfl
  by_cases s_3 : w = 3
  · refine j_tableIn (off := 37) (tgt := 38) C dX9_triesOf_1 (by rw [s_3]; decide) (by rw [s_3]; decide) (by rw [s_3]; rfl) (by decide) ?_
    refine j_bipush (v := 20) C dX9_triesOf_38 rfl ?_
    refine hret _ _ _ _ dX9_triesOf_40 rfl ?_
    refine ⟨?_, rfl⟩; simp [trS, *]; try rfl
  by_cases s_4 : w = 4
  · refine j_tableIn (off := 40) (tgt := 41) C dX9_triesOf_1 (by rw [s_4]; decide) (by rw [s_4]; decide) (by rw [s_4]; rfl) (by decide) ?_
    refine j_iconst (v := 5) C dX9_triesOf_41 rfl ?_
    refine hret _ _ _ _ dX9_triesOf_42 rfl ?_
    refine ⟨?_, rfl⟩; simp [trS, *]; try rfl
  have hsw : w.toInt < 1 ∨ 4 < w.toInt := by
    have q1 : ¬ w.toInt = 1 := lv_neT s_1 rfl
    have q2 : ¬ w.toInt = 2 := lv_neT s_2 rfl
    have q3 : ¬ w.toInt = 3 := lv_neT s_3 rfl
    have q4 : ¬ w.toInt = 4 := lv_neT s_4 rfl
    omega
  refine j_tableOut (tgt := 43) C dX9_triesOf_1 hsw (by decide) ?_
  refine j_aload_n C dX9_triesOf_43 rfl rfl ?_
  refine j_get C dX9_triesOf_44 jf_RX9_98 (wO cX0) rfl ?_
  refine hret _ _ _ _ dX9_triesOf_47 rfl ?_
  refine ⟨?_, rfl⟩; simp [trS, *]; try rfl
set_option maxHeartbeats 4000000 in
set_option maxRecDepth 100000 in
theorem c_X9_change (l : Launch) (g : jG) (a : Nat → Nat) (M : (Nat → Nat → Int32)) (K : Nat) (hK : isGl K) (w : Int32) (v : Int32) (q : Nat) (hv : v = nI q) : Cv l g yX9_change cX9_change 3 0 0 0 0 (cW g a) [.ref (a K), .int w, .int v] M (fun z => (∀ k, k ≠ K → z k = M k) ∧ ∀ i, i < 5 → z K i = chR (M K) w q i) := by
  refine mk_v (by decide +kernel) rfl (fun KK hKl hKg C hin hret => ?_)
  subst hKl; subst hKg
  refine j_lv (lv' := [(0, _), (1, _), (2, _)]) rfl ?_
  subst hv
  refine j_iload_n C dX9_change_0 rfl rfl ?_
  by_cases s_1 : w = 1
  · refine j_tableIn (off := 31) (tgt := 32) C dX9_change_1 (by rw [s_1]; decide) (by rw [s_1]; decide) (by rw [s_1]; rfl) (by decide) ?_
    refine j_aload_n C dX9_change_32 rfl rfl ?_
    refine j_iload_n C dX9_change_33 rfl rfl ?_
    refine j_put C dX9_change_34 jp_RX9_161 (wO (cGl hK)) (Nat.le_of_ble_eq_true rfl) rfl rfl (sO (cGl hK) 0 _ rfl) ?_
    refine j_goto (tgt := 64) C dX9_change_37 (by decide) ?_
    refine hret _ _ _ dX9_change_64 ?_
    refine ⟨fun k h => by first | rfl | rw [uM_ne h], fun i hi => ?_⟩
    have h5 : i = 0 ∨ i = 1 ∨ i = 2 ∨ i = 3 ∨ i = 4 := by omega
    rcases h5 with rfl | rfl | rfl | rfl | rfl <;> simp [uM_all, chR, *]
  by_cases s_2 : w = 2
  · refine j_tableIn (off := 39) (tgt := 40) C dX9_change_1 (by rw [s_2]; decide) (by rw [s_2]; decide) (by rw [s_2]; rfl) (by decide) ?_
    refine j_aload_n C dX9_change_40 rfl rfl ?_
    refine j_iload_n C dX9_change_41 rfl rfl ?_
    refine j_put C dX9_change_42 jp_RX9_134 (wO (cGl hK)) (Nat.le_of_ble_eq_true rfl) rfl rfl (sO (cGl hK) 1 _ rfl) ?_
    refine j_goto (tgt := 64) C dX9_change_45 (by decide) ?_
    refine hret _ _ _ dX9_change_64 ?_
    refine ⟨fun k h => by first | rfl | rw [uM_ne h], fun i hi => ?_⟩
    have h5 : i = 0 ∨ i = 1 ∨ i = 2 ∨ i = 3 ∨ i = 4 := by omega
    rcases h5 with rfl | rfl | rfl | rfl | rfl <;> simp [uM_all, chR, *]
  by_cases s_3 : w = 3
  · refine j_tableIn (off := 47) (tgt := 48) C dX9_change_1 (by rw [s_3]; decide) (by rw [s_3]; decide) (by rw [s_3]; rfl) (by decide) ?_
    refine j_aload_n C dX9_change_48 rfl rfl ?_
    refine j_iload_n C dX9_change_49 rfl rfl ?_
    refine j_put C dX9_change_50 jp_RX9_137 (wO (cGl hK)) (Nat.le_of_ble_eq_true rfl) rfl rfl (sO (cGl hK) 2 _ rfl) ?_
    refine j_goto (tgt := 64) C dX9_change_53 (by decide) ?_
    refine hret _ _ _ dX9_change_64 ?_
    refine ⟨fun k h => by first | rfl | rw [uM_ne h], fun i hi => ?_⟩
    have h5 : i = 0 ∨ i = 1 ∨ i = 2 ∨ i = 3 ∨ i = 4 := by omega
    rcases h5 with rfl | rfl | rfl | rfl | rfl <;> simp [uM_all, chR, *]
  by_cases s_4 : w = 4
  · refine j_tableIn (off := 55) (tgt := 56) C dX9_change_1 (by rw [s_4]; decide) (by rw [s_4]; decide) (by rw [s_4]; rfl) (by decide) ?_
    refine j_aload_n C dX9_change_56 rfl rfl ?_
    refine j_iload_n C dX9_change_57 rfl rfl ?_
    refine j_put C dX9_change_58 jp_RX9_140 (wO (cGl hK)) (Nat.le_of_ble_eq_true rfl) rfl rfl (sO (cGl hK) 3 _ rfl) ?_
    refine j_goto (tgt := 64) C dX9_change_61 (by decide) ?_
    refine hret _ _ _ dX9_change_64 ?_
    refine ⟨fun k h => by first | rfl | rw [uM_ne h], fun i hi => ?_⟩
    have h5 : i = 0 ∨ i = 1 ∨ i = 2 ∨ i = 3 ∨ i = 4 := by omega
    rcases h5 with rfl | rfl | rfl | rfl | rfl <;> simp [uM_all, chR, *]
  have hsw : w.toInt < 1 ∨ 4 < w.toInt := by
    have q1 : ¬ w.toInt = 1 := lv_neT s_1 rfl
    have q2 : ¬ w.toInt = 2 := lv_neT s_2 rfl
    have q3 : ¬ w.toInt = 3 := lv_neT s_3 rfl
    have q4 : ¬ w.toInt = 4 := lv_neT s_4 rfl
    omega
  refine j_tableOut (tgt := 64) C dX9_change_1 hsw (by decide) ?_
  refine hret _ _ _ dX9_change_64 ?_
  refine ⟨fun k h => by first | rfl | rw [uM_ne h], fun i hi => ?_⟩
  have h5 : i = 0 ∨ i = 1 ∨ i = 2 ∨ i = 3 ∨ i = 4 := by omega
  rcases h5 with rfl | rfl | rfl | rfl | rfl <;> simp [uM_all, chR, *]
set_option maxHeartbeats 4000000 in
set_option maxRecDepth 100000 in
theorem c_X9_allThatTell (l : Launch) (g : jG) (a : Nat → Nat) (M : (Nat → Nat → Int32)) (K : Nat) (hK : isRw K) (G : Nat) (hG : isGl G) (w : Int32) (n t ru : Nat) (T : Nat → Nat → List Int32) (hX : inX M n t ru T) (sz : Nat) (hsz : M K 2 = nI sz) (hs : sz ≤ 30) (hG26 : G ≠ 26 ∧ ¬ scX G) : Ci l g yX9_allThatTell cX9_allThatTell 8 .int 5 120 0 0 (cW g a) [.ref (a 0), .ref (a K), .ref (a G), .int w] M (fun r z => r = tlS (fun v => osS (M (K + 1)) (whS (if w = 5 then T v else T ru) (chR (M G) w v) (M 2 0)) sz 0) (trS w t) ∧ fkX M z) := by
  refine mk_i (by decide +kernel) rfl (fun KK hKl hKg C hin hret => ?_)
  subst hKl; subst hKg
  refine j_lv (lv' := [(0, _), (1, _), (2, _), (3, _)]) rfl ?_
  have hru : isTx (34 + 3 * ru) := isTx_h (show ru < 6 by have h1 := hX.2.2.1.2; have h2 := hX.2.1.2.2; omega)
  have hKr := isRw_c hK
  have htr : trS w t ≤ 20 := by have := hX.2.1.2.2; unfold trS; (repeat' split) <;> omega
  refine j_iconst (v := 0) C dX9_allThatTell_0 rfl ?_
  refine j_istore (lv' := [(4, _), (0, _), (1, _), (2, _), (3, _)]) C dX9_allThatTell_1 (by decide) rfl ?_
  refine j_aload_n C dX9_allThatTell_3 rfl rfl ?_
  refine j_iload_n C dX9_allThatTell_4 rfl rfl ?_
  refine j_calliv C (c_X9_triesOf _ _ _ _ _ t hX.2.1.1) dX9_allThatTell_5 jm_RX9_246 ⟨_, _, _, _, wO cX0, rfl, rfl⟩ ⟨by decide, by decide, by decide, by decide⟩ rfl (Nat.le_of_ble_eq_true rfl) (fun r z hz => ?_)
  obtain ⟨hr, hz⟩ := hz; have hr := hr.symm; have hz := hz.symm; subst hr; subst hz
  refine j_istore (lv' := [(5, _), (4, _), (0, _), (1, _), (2, _), (3, _)]) C dX9_allThatTell_8 (by decide) rfl ?_
  refine j_iconst (v := 0) C dX9_allThatTell_10 rfl ?_
  refine j_istore (lv' := [(6, _), (5, _), (4, _), (0, _), (1, _), (2, _), (3, _)]) C dX9_allThatTell_11 (by decide) rfl ?_
  have L_13 : ∀ k : Nat, ∀ (i : Nat) (M' : Nat → Nat → Int32), i ≤ trS w t → trS w t < i + k → (fkX M M') → J KK (cW (kG KK) a) 0 0 M' [(0, .ref (a 0)), (1, .ref (a K)), (2, .ref (a G)), (3, .int w), (4, .int (tlS (fun v => osS (M (K + 1)) (whS (if w = 5 then T v else T ru) (chR (M G) w v) (M 2 0)) sz 0) i)), (5, .int (nI (trS w t))), (6, .int (nI i))] 13 [] := by
    intro k
    induction k with
    | zero => intro i M' h1 hk hF; omega
    | succ k ih =>
      intro i M' h1 hk hF
      have e_i : (nI i).toInt = i := nI_toInt (by omega); have e_t : (nI (trS w t)).toInt = trS w t := nI_toInt (by omega)
      refine j_iload C dX9_allThatTell_13 rfl ?_
      refine j_iload C dX9_allThatTell_15 rfl ?_
      refine j_icmp_ge (tgt := 88) C dX9_allThatTell_17 (by decide) (fun c_1 => ?_) (fun c_1 => ?_)
      · skip
        have hi : i = trS w t := by simp only [Int32.lt_iff_toInt_lt, Int32.le_iff_toInt_le, ← Int32.toInt_inj, Int32.reduceToInt, e_i, e_t] at c_1; omega
        subst hi
        refine j_iload C dX9_allThatTell_88 rfl ?_
        refine hret _ _ _ _ dX9_allThatTell_90 rfl ?_
        exact ⟨rfl, hF⟩
      · skip
        have hi : i < trS w t := by simp only [Int32.lt_iff_toInt_lt, Int32.le_iff_toInt_le, ← Int32.toInt_inj, Int32.reduceToInt, e_i, e_t] at c_1; omega
        refine j_aload_n C dX9_allThatTell_20 rfl rfl ?_
        refine j_get C dX9_allThatTell_21 jf_RX9_56 (wO cX0) rfl ?_
        refine j_aload_n C dX9_allThatTell_24 rfl rfl ?_
        refine j_callvv C (c_X1_become _ _ _ _ 26 (Or.inl rfl) G hG ) dX9_allThatTell_25 jm_RX9_201 ⟨_, _, _, _, wO (cGl (Or.inl rfl)), rfl, rfl⟩ ⟨by decide, by decide, by decide, by decide⟩ rfl (Nat.le_of_ble_eq_true rfl) (fun z_25 hz_25 => ?_)
        obtain ⟨zf_25, zk_25⟩ := hz_25
        refine j_aload_n C dX9_allThatTell_28 rfl rfl ?_
        refine j_get C dX9_allThatTell_29 jf_RX9_56 (wO cX0) rfl ?_
        refine j_iload_n C dX9_allThatTell_32 rfl rfl ?_
        refine j_iload C dX9_allThatTell_33 rfl ?_
        refine j_callvs C (c_X9_change _ _ _ _ 26 (Or.inl rfl) _ _ i rfl) dX9_allThatTell_35 jm_RX9_249 ⟨by decide, by decide, by decide, by decide⟩ rfl (Nat.le_of_ble_eq_true rfl) (fun z_35 hz_35 => ?_)
        obtain ⟨zf_35, zk_35⟩ := hz_35
        have hF3 : fkX M z_35 := fun k hk => by rw [zf_35 k (by intro e; subst e; exact hk (by unfold scX; omega)), zf_25 k (by intro e; subst e; exact hk (by unfold scX; omega))]; exact hF k hk
        have hX3 := fkX_in hX hF3
        have hg5 : ∀ j, j < 5 → z_35 26 j = chR (M G) w i j := fun j hj => by
          rw [zk_35 j hj, chR, chR]
          split
          · rfl
          · rw [zk_25 j hj, hF G hG26.2]
        refine j_iload_n C dX9_allThatTell_38 rfl rfl ?_
        refine j_iconst (v := 5) C dX9_allThatTell_39 rfl ?_
        refine j_icmp_ne (tgt := 52) C dX9_allThatTell_40 (by decide) (fun c_w => ?_) (fun c_w => ?_)
        · skip
          have hTT : txR z_35 (34 + 3 * ru) (if w = 5 then T i else T ru) := by rw [if_neg c_w]; exact hX3.2.2.2.2 ru hX3.2.2.1.2
          refine j_aload_n C dX9_allThatTell_52 rfl rfl ?_
          refine j_callqv C (c_X9_ruleText _ _ _ _  n t ru T hX3) dX9_allThatTell_53 jm_RX9_205 ⟨_, _, _, _, wO cX0, rfl, rfl⟩ ⟨by decide, by decide, by decide, by decide⟩ rfl (Nat.le_of_ble_eq_true rfl) (fun r z hz => ?_)
          obtain ⟨hr, hz⟩ := hz; have hr := hr.symm; have hz := hz.symm; subst hr; subst hz
          refine j_top (v' := .ref (a (34 + 3 * ru))) rfl ?_
          refine j_astore (lv' := [(7, _), (0, _), (1, _), (2, _), (3, _), (4, _), (5, _), (6, _)]) C dX9_allThatTell_56 (by decide) rfl ?_
          refine j_aload_n C dX9_allThatTell_58 rfl rfl ?_
          refine j_aload_n C dX9_allThatTell_59 rfl rfl ?_
          refine j_aload_n C dX9_allThatTell_60 rfl rfl ?_
          refine j_get C dX9_allThatTell_61 jf_RX9_56 (wO cX0) rfl ?_
          refine j_aload C dX9_allThatTell_64 rfl ?_
          refine j_calliv C (c_X9_otherwiseOn _ _ _ _ K hK 26 (Or.inl rfl) (34 + 3 * ru) hru (if w = 5 then T i else T ru) hTT sz (by rw [hF3 K (by unfold scX; omega)]; exact hsz) hs) dX9_allThatTell_66 jm_RX9_235 ⟨_, _, _, _, wO cX0, rfl, rfl⟩ ⟨by decide, by decide, by decide, by decide⟩ rfl (Nat.le_of_ble_eq_true rfl) (fun r_66 z_66 hz_66 => ?_)
          obtain ⟨hr, zf_66⟩ := hz_66
          have hos : r_66 = osS (M (K + 1)) (whS (if w = 5 then T i else T ru) (chR (M G) w i) (M 2 0)) sz 0 := by
            rw [hr, hF3 (K + 1) (by unfold scX; omega), hF3 2 (by unfold scX; omega), whS_c hg5]
          clear hr
          refine j_iconst (v := -1) C dX9_allThatTell_69 rfl ?_
          refine j_icmp_ne (tgt := 82) C dX9_allThatTell_70 (by decide) (fun c_70 => ?_) (fun c_70 => ?_)
          · skip
            refine j_iinc (lv' := [(6, _), (7, _), (0, _), (1, _), (2, _), (3, _), (4, _), (5, _)]) (v := nI (i + 1)) C dX9_allThatTell_82 rfl (j_inc1 i) (by decide) rfl ?_
            refine j_goto (tgt := 13) C dX9_allThatTell_85 (by decide) ?_
            refine j_lv (lv' := [(0, _), (1, _), (2, _), (3, _), (4, _), (5, _), (6, _)]) rfl ?_
            have hFz : fkX M z_66 := fun k hk => by rw [zf_66 k (by unfold scX at hk; omega)]; exact hF3 k hk
            have h9 := ih (i + 1) z_66 (by omega) (by omega) hFz
            rw [tlS] at h9
            first
              | (rw [if_pos (show (fun v => osS (M (K + 1)) (whS (if w = 5 then T v else T ru) (chR (M G) w v) (M 2 0)) sz 0) i = -1 by dsimp only; rw [← hos]; exact c_70)] at h9; exact h9)
              | (rw [if_neg (show ¬ (fun v => osS (M (K + 1)) (whS (if w = 5 then T v else T ru) (chR (M G) w v) (M 2 0)) sz 0) i = -1 by dsimp only; rw [← hos]; exact c_70)] at h9; exact h9)
          · skip
            refine j_iload C dX9_allThatTell_73 rfl ?_
            refine j_iconst (v := 1) C dX9_allThatTell_75 rfl ?_
            refine j_iload C dX9_allThatTell_76 rfl ?_
            refine j_ishl C dX9_allThatTell_78 ?_
            refine j_ior C dX9_allThatTell_79 ?_
            refine j_istore (lv' := [(4, _), (7, _), (0, _), (1, _), (2, _), (3, _), (5, _), (6, _)]) C dX9_allThatTell_80 (by decide) rfl ?_
            refine j_iinc (lv' := [(6, _), (4, _), (7, _), (0, _), (1, _), (2, _), (3, _), (5, _)]) (v := nI (i + 1)) C dX9_allThatTell_82 rfl (j_inc1 i) (by decide) rfl ?_
            refine j_goto (tgt := 13) C dX9_allThatTell_85 (by decide) ?_
            refine j_lv (lv' := [(0, _), (1, _), (2, _), (3, _), (4, _), (5, _), (6, _)]) rfl ?_
            have hFz : fkX M z_66 := fun k hk => by rw [zf_66 k (by unfold scX at hk; omega)]; exact hF3 k hk
            have h9 := ih (i + 1) z_66 (by omega) (by omega) hFz
            rw [tlS] at h9
            first
              | (rw [if_pos (show (fun v => osS (M (K + 1)) (whS (if w = 5 then T v else T ru) (chR (M G) w v) (M 2 0)) sz 0) i = -1 by dsimp only; rw [← hos]; exact c_70)] at h9; exact h9)
              | (rw [if_neg (show ¬ (fun v => osS (M (K + 1)) (whS (if w = 5 then T v else T ru) (chR (M G) w v) (M 2 0)) sz 0) i = -1 by dsimp only; rw [← hos]; exact c_70)] at h9; exact h9)
        · skip
          have hi5 : i < t := by unfold trS at hi; rw [c_w] at hi; simpa using hi
          have hTT : txR z_35 (34 + 3 * i) (if w = 5 then T i else T ru) := by rw [if_pos c_w]; exact hX3.2.2.2.2 i hi5
          refine j_aload_n C dX9_allThatTell_43 rfl rfl ?_
          refine j_iload C dX9_allThatTell_44 rfl ?_
          refine j_callqv C (c_X9_textAt _ _ _ _ _ i t rfl hX3.2.1.1 hi5 hX3.2.1.2.2) dX9_allThatTell_46 jm_RX9_253 ⟨_, _, _, _, wO cX0, rfl, rfl⟩ ⟨by decide, by decide, by decide, by decide⟩ rfl (Nat.le_of_ble_eq_true rfl) (fun r z hz => ?_)
          obtain ⟨hr, hz⟩ := hz; have hr := hr.symm; have hz := hz.symm; subst hr; subst hz
          refine j_top (v' := .ref (a (34 + 3 * i))) rfl ?_
          refine j_goto (tgt := 56) C dX9_allThatTell_49 (by decide) ?_
          refine j_astore (lv' := [(7, _), (0, _), (1, _), (2, _), (3, _), (4, _), (5, _), (6, _)]) C dX9_allThatTell_56 (by decide) rfl ?_
          refine j_aload_n C dX9_allThatTell_58 rfl rfl ?_
          refine j_aload_n C dX9_allThatTell_59 rfl rfl ?_
          refine j_aload_n C dX9_allThatTell_60 rfl rfl ?_
          refine j_get C dX9_allThatTell_61 jf_RX9_56 (wO cX0) rfl ?_
          refine j_aload C dX9_allThatTell_64 rfl ?_
          refine j_calliv C (c_X9_otherwiseOn _ _ _ _ K hK 26 (Or.inl rfl) (34 + 3 * i) (isTx_h (show i < 6 by have := hX.2.1.2.2; omega)) (if w = 5 then T i else T ru) hTT sz (by rw [hF3 K (by unfold scX; omega)]; exact hsz) hs) dX9_allThatTell_66 jm_RX9_235 ⟨_, _, _, _, wO cX0, rfl, rfl⟩ ⟨by decide, by decide, by decide, by decide⟩ rfl (Nat.le_of_ble_eq_true rfl) (fun r_66 z_66 hz_66 => ?_)
          obtain ⟨hr, zf_66⟩ := hz_66
          have hos : r_66 = osS (M (K + 1)) (whS (if w = 5 then T i else T ru) (chR (M G) w i) (M 2 0)) sz 0 := by
            rw [hr, hF3 (K + 1) (by unfold scX; omega), hF3 2 (by unfold scX; omega), whS_c hg5]
          clear hr
          refine j_iconst (v := -1) C dX9_allThatTell_69 rfl ?_
          refine j_icmp_ne (tgt := 82) C dX9_allThatTell_70 (by decide) (fun c_70 => ?_) (fun c_70 => ?_)
          · skip
            refine j_iinc (lv' := [(6, _), (7, _), (0, _), (1, _), (2, _), (3, _), (4, _), (5, _)]) (v := nI (i + 1)) C dX9_allThatTell_82 rfl (j_inc1 i) (by decide) rfl ?_
            refine j_goto (tgt := 13) C dX9_allThatTell_85 (by decide) ?_
            refine j_lv (lv' := [(0, _), (1, _), (2, _), (3, _), (4, _), (5, _), (6, _)]) rfl ?_
            have hFz : fkX M z_66 := fun k hk => by rw [zf_66 k (by unfold scX at hk; omega)]; exact hF3 k hk
            have h9 := ih (i + 1) z_66 (by omega) (by omega) hFz
            rw [tlS] at h9
            first
              | (rw [if_pos (show (fun v => osS (M (K + 1)) (whS (if w = 5 then T v else T ru) (chR (M G) w v) (M 2 0)) sz 0) i = -1 by dsimp only; rw [← hos]; exact c_70)] at h9; exact h9)
              | (rw [if_neg (show ¬ (fun v => osS (M (K + 1)) (whS (if w = 5 then T v else T ru) (chR (M G) w v) (M 2 0)) sz 0) i = -1 by dsimp only; rw [← hos]; exact c_70)] at h9; exact h9)
          · skip
            refine j_iload C dX9_allThatTell_73 rfl ?_
            refine j_iconst (v := 1) C dX9_allThatTell_75 rfl ?_
            refine j_iload C dX9_allThatTell_76 rfl ?_
            refine j_ishl C dX9_allThatTell_78 ?_
            refine j_ior C dX9_allThatTell_79 ?_
            refine j_istore (lv' := [(4, _), (7, _), (0, _), (1, _), (2, _), (3, _), (5, _), (6, _)]) C dX9_allThatTell_80 (by decide) rfl ?_
            refine j_iinc (lv' := [(6, _), (4, _), (7, _), (0, _), (1, _), (2, _), (3, _), (5, _)]) (v := nI (i + 1)) C dX9_allThatTell_82 rfl (j_inc1 i) (by decide) rfl ?_
            refine j_goto (tgt := 13) C dX9_allThatTell_85 (by decide) ?_
            refine j_lv (lv' := [(0, _), (1, _), (2, _), (3, _), (4, _), (5, _), (6, _)]) rfl ?_
            have hFz : fkX M z_66 := fun k hk => by rw [zf_66 k (by unfold scX at hk; omega)]; exact hF3 k hk
            have h9 := ih (i + 1) z_66 (by omega) (by omega) hFz
            rw [tlS] at h9
            first
              | (rw [if_pos (show (fun v => osS (M (K + 1)) (whS (if w = 5 then T v else T ru) (chR (M G) w v) (M 2 0)) sz 0) i = -1 by dsimp only; rw [← hos]; exact c_70)] at h9; exact h9)
              | (rw [if_neg (show ¬ (fun v => osS (M (K + 1)) (whS (if w = 5 then T v else T ru) (chR (M G) w v) (M 2 0)) sz 0) i = -1 by dsimp only; rw [← hos]; exact c_70)] at h9; exact h9)
  refine j_lv (lv' := [(0, _), (1, _), (2, _), (3, _), (4, _), (5, _), (6, _)]) rfl ?_
  exact L_13 (trS w t + 1) 0 M (by omega) (by omega) fkX_r
set_option maxHeartbeats 4000000 in
set_option maxRecDepth 100000 in
theorem c_X9_tells (l : Launch) (g : jG) (a : Nat → Nat) (M : (Nat → Nat → Int32)) (s : Int32) (p : Int32) (w : Int32) (n t ru : Nat) (T : Nat → Nat → List Int32) (hX : inX M n t ru T) (hrw : ∀ i, i < 4 → ∃ sz, M (52 + 2 * i) 2 = nI sz ∧ sz ≤ 40) : Ci l g yX9_tells cX9_tells 6 .int 6 147 0 0 (cW g a) [.ref (a 0), .int s, .int p, .int w] M (fun r z => r = (if (0 ≤ s ∧ s < 4) ∧ (0 ≤ p ∧ p < M 0 1) ∧ (0 ≤ w ∧ w ≤ 5) then (if M (52 + 2 * s.toNatClampNeg) 1 = -1 then -11 else if 30 < M (52 + 2 * s.toNatClampNeg) 2 then -2 else if w = 0 then (osS (M (52 + 2 * s.toNatClampNeg + 1)) (whS (T ru) (M (28 + p.toNatClampNeg)) (M 2 0)) (M (52 + 2 * s.toNatClampNeg) 2).toNatClampNeg 0) else tlS (fun v => osS (M (52 + 2 * s.toNatClampNeg + 1)) (whS (if w = 5 then T v else T ru) (chR (M (28 + p.toNatClampNeg)) w v) (M 2 0)) (M (52 + 2 * s.toNatClampNeg) 2).toNatClampNeg 0) (trS w t)) else -2) ∧ fkX M z) := by
  refine mk_i (by decide +kernel) rfl (fun KK hKl hKg C hin hret => ?_)
  subst hKl; subst hKg
  refine j_lv (lv' := [(0, _), (1, _), (2, _), (3, _)]) rfl ?_
  have hn6 := hX.1.2
  have hru : isTx (34 + 3 * ru) := isTx_h (show ru < 6 by have h1 := hX.2.2.1.2; have h2 := hX.2.1.2.2; omega)
  refine j_aload_n C dX9_tells_0 rfl rfl ?_
  refine j_iload_n C dX9_tells_1 rfl rfl ?_
  refine j_callqv C (c_X9_rowAt _ _ _ _ _ ) dX9_tells_2 jm_RX9_226 ⟨_, _, _, _, wO cX0, rfl, rfl⟩ ⟨by decide, by decide, by decide, by decide⟩ rfl (Nat.le_of_ble_eq_true rfl) (fun r z hz => ?_)
  obtain ⟨hb, hz⟩ := hz; have hz := hz.symm; subst hz
  rcases hb with ⟨i_2, hi_2, he_2, rfl⟩ | ⟨hno_2, rfl⟩
  · skip
    subst he_2
    refine j_astore (lv' := [(4, _), (0, _), (1, _), (2, _), (3, _)]) C dX9_tells_5 (by decide) rfl ?_
    refine j_aload_n C dX9_tells_7 rfl rfl ?_
    refine j_iload_n C dX9_tells_8 rfl rfl ?_
    refine j_callqv C (c_X9_gloveAt _ _ _ _ _ n hX.1.1 hn6) dX9_tells_9 jm_RX9_110 ⟨_, _, _, _, wO cX0, rfl, rfl⟩ ⟨by decide, by decide, by decide, by decide⟩ rfl (Nat.le_of_ble_eq_true rfl) (fun r z hz => ?_)
    obtain ⟨hb, hz⟩ := hz; have hz := hz.symm; subst hz
    rcases hb with ⟨i_9, hi_9, he_9, rfl⟩ | ⟨hno_9, rfl⟩
    · skip
      subst he_9
      have hGl : isGl (28 + i_9) := isGl_h (by omega)
      refine j_astore (lv' := [(5, _), (4, _), (0, _), (1, _), (2, _), (3, _)]) C dX9_tells_12 (by decide) rfl ?_
      refine j_aload C dX9_tells_14 rfl ?_
      refine j_ifnull C dX9_tells_16 ?_
      refine j_aload C dX9_tells_19 rfl ?_
      refine j_ifnull C dX9_tells_21 ?_
      refine j_iload_n C dX9_tells_24 rfl rfl ?_
      refine j_if_lt (tgt := 33) C dX9_tells_25 (by decide) (fun c_25 => ?_) (fun c_25 => ?_)
      · skip
        refine j_bipush (v := -2) C dX9_tells_33 rfl ?_
        refine hret _ _ _ _ dX9_tells_35 rfl ?_
        first
          | exact ⟨(if_neg (fun h => hno_2 h.1)).symm, fkX_r⟩
          | exact ⟨(if_neg (fun h => hno_9 h.2.1)).symm, fkX_r⟩
          | exact ⟨(if_neg (fun h => by have := h.2.2; simp only [Int32.lt_iff_toInt_lt, Int32.le_iff_toInt_le, ← Int32.toInt_inj, Int32.reduceToInt] at *; omega)).symm, fkX_r⟩
      · skip
        refine j_iload_n C dX9_tells_28 rfl rfl ?_
        refine j_iconst (v := 5) C dX9_tells_29 rfl ?_
        refine j_icmp_le (tgt := 36) C dX9_tells_30 (by decide) (fun c_30 => ?_) (fun c_30 => ?_)
        · skip
          refine j_aload C dX9_tells_36 rfl ?_
          refine j_calliv C (c_X5_isMissing _ _ _ _ (52 + 2 * i_2) (isRw_h hi_2) ) dX9_tells_38 jm_RX9_230 ⟨_, _, _, _, wO (cRw (isRw_h hi_2)), rfl, rfl⟩ ⟨by decide, by decide, by decide, by decide⟩ rfl (Nat.le_of_ble_eq_true rfl) (fun r z hz => ?_)
          obtain ⟨hb, hz⟩ := hz; have hz := hz.symm; subst hz
          rcases hb with ⟨rfl, b_38⟩ | ⟨rfl, b_38⟩
          · skip
            refine j_if_eq (tgt := 47) C dX9_tells_41 (by decide) (fun c => absurd c (by decide)) (fun _ => ?_)
            refine j_bipush (v := -11) C dX9_tells_44 rfl ?_
            refine hret _ _ _ _ dX9_tells_46 rfl ?_
            refine ok_pos ⟨nI_0le (n := 4) hi_2 (by decide), ⟨(nI_0le hi_9 (by omega)).1, by rw [hX.1.1]; exact (nI_0le hi_9 (by omega)).2⟩, by simp only [Int32.lt_iff_toInt_lt, Int32.le_iff_toInt_le, ← Int32.toInt_inj, Int32.reduceToInt] at c_25 c_30 ⊢; omega⟩ ?_
            rw [nI_clamp (show i_2 < 2147483648 by omega), nI_clamp (show i_9 < 2147483648 by omega)]
            exact ⟨(if_pos b_38).symm, fkX_r⟩
          · skip
            refine j_if_eq (tgt := 47) C dX9_tells_41 (by decide) (fun _ => ?_) (fun c => absurd (by decide) c)
            refine j_aload C dX9_tells_47 rfl ?_
            refine j_getN C dX9_tells_49 jfn_RX9_234 (wO (cRw (isRw_h hi_2))) rfl ?_
            refine j_bipush (v := 30) C dX9_tells_52 rfl ?_
            refine j_icmp_le (tgt := 60) C dX9_tells_54 (by decide) (fun c_54 => ?_) (fun c_54 => ?_)
            · skip
              refine j_iload_n C dX9_tells_60 rfl rfl ?_
              refine j_if_ne (tgt := 79) C dX9_tells_61 (by decide) (fun c_61 => ?_) (fun c_61 => ?_)
              · skip
                obtain ⟨sz, hsz, hs40⟩ := hrw i_2 hi_2
                have hs : sz ≤ 30 := by rw [hsz] at c_54; simp only [Int32.lt_iff_toInt_lt, Int32.le_iff_toInt_le, ← Int32.toInt_inj, Int32.reduceToInt, nI_toInt (show sz < 2147483648 by omega)] at c_54; omega
                refine j_aload_n C dX9_tells_79 rfl rfl ?_
                refine j_aload C dX9_tells_80 rfl ?_
                refine j_aload C dX9_tells_82 rfl ?_
                refine j_iload_n C dX9_tells_84 rfl rfl ?_
                refine j_calliv C (c_X9_allThatTell _ _ _ _ (52 + 2 * i_2) (isRw_h hi_2) (28 + i_9) (isGl_h (Nat.lt_of_lt_of_le hi_9 hn6)) _ n t ru T hX sz hsz hs ⟨by omega, by unfold scX; omega⟩) dX9_tells_85 jm_RX9_239 ⟨_, _, _, _, wO cX0, rfl, rfl⟩ ⟨by decide, by decide, by decide, by decide⟩ rfl (Nat.le_of_ble_eq_true rfl) (fun r_85 z_85 hz_85 => ?_)
                obtain ⟨hr, zf_85⟩ := hz_85; have hr := hr.symm; subst hr
                refine hret _ _ _ _ dX9_tells_88 rfl ?_
                refine ok_pos ⟨nI_0le (n := 4) hi_2 (by decide), ⟨(nI_0le hi_9 (by omega)).1, by rw [hX.1.1]; exact (nI_0le hi_9 (by omega)).2⟩, by simp only [Int32.lt_iff_toInt_lt, Int32.le_iff_toInt_le, ← Int32.toInt_inj, Int32.reduceToInt] at c_25 c_30 ⊢; omega⟩ ?_
                rw [nI_clamp (show i_2 < 2147483648 by omega), nI_clamp (show i_9 < 2147483648 by omega)]
                rw [if_neg b_38, if_neg (show ¬ (30 : Int32) < M (52 + 2 * i_2) 2 by simp only [Int32.lt_iff_toInt_lt, Int32.le_iff_toInt_le, ← Int32.toInt_inj, Int32.reduceToInt] at c_54 ⊢; omega), hsz, nI_clamp (show sz < 2147483648 by omega)]
                first
                  | (rw [if_pos (show w = 0 from c_61)]; exact ⟨rfl, fun k hk => zf_73 k (by unfold scX at hk; omega)⟩)
                  | (rw [if_neg (show ¬ w = 0 from c_61)]; exact ⟨rfl, zf_85⟩)
              · skip
                obtain ⟨sz, hsz, hs40⟩ := hrw i_2 hi_2
                have hs : sz ≤ 30 := by rw [hsz] at c_54; simp only [Int32.lt_iff_toInt_lt, Int32.le_iff_toInt_le, ← Int32.toInt_inj, Int32.reduceToInt, nI_toInt (show sz < 2147483648 by omega)] at c_54; omega
                refine j_aload_n C dX9_tells_64 rfl rfl ?_
                refine j_aload C dX9_tells_65 rfl ?_
                refine j_aload C dX9_tells_67 rfl ?_
                refine j_aload_n C dX9_tells_69 rfl rfl ?_
                refine j_callqv C (c_X9_ruleText _ _ _ _  n t ru T hX) dX9_tells_70 jm_RX9_205 ⟨_, _, _, _, wO cX0, rfl, rfl⟩ ⟨by decide, by decide, by decide, by decide⟩ rfl (Nat.le_of_ble_eq_true rfl) (fun r z hz => ?_)
                obtain ⟨hr, hz⟩ := hz; have hr := hr.symm; have hz := hz.symm; subst hr; subst hz
                refine j_top (v' := .ref (a (34 + 3 * ru))) rfl ?_
                refine j_calliv C (c_X9_otherwiseOn _ _ _ _ (52 + 2 * i_2) (isRw_h hi_2) (28 + i_9) (isGl_h (Nat.lt_of_lt_of_le hi_9 hn6)) (34 + 3 * ru) hru (T ru) (hX.2.2.2.2 ru hX.2.2.1.2) sz hsz hs) dX9_tells_73 jm_RX9_235 ⟨_, _, _, _, wO cX0, rfl, rfl⟩ ⟨by decide, by decide, by decide, by decide⟩ rfl (Nat.le_of_ble_eq_true rfl) (fun r_73 z_73 hz_73 => ?_)
                obtain ⟨hr, zf_73⟩ := hz_73; have hr := hr.symm; subst hr
                refine j_goto (tgt := 88) C dX9_tells_76 (by decide) ?_
                refine hret _ _ _ _ dX9_tells_88 rfl ?_
                refine ok_pos ⟨nI_0le (n := 4) hi_2 (by decide), ⟨(nI_0le hi_9 (by omega)).1, by rw [hX.1.1]; exact (nI_0le hi_9 (by omega)).2⟩, by simp only [Int32.lt_iff_toInt_lt, Int32.le_iff_toInt_le, ← Int32.toInt_inj, Int32.reduceToInt] at c_25 c_30 ⊢; omega⟩ ?_
                rw [nI_clamp (show i_2 < 2147483648 by omega), nI_clamp (show i_9 < 2147483648 by omega)]
                rw [if_neg b_38, if_neg (show ¬ (30 : Int32) < M (52 + 2 * i_2) 2 by simp only [Int32.lt_iff_toInt_lt, Int32.le_iff_toInt_le, ← Int32.toInt_inj, Int32.reduceToInt] at c_54 ⊢; omega), hsz, nI_clamp (show sz < 2147483648 by omega)]
                first
                  | (rw [if_pos (show w = 0 from c_61)]; exact ⟨rfl, fun k hk => zf_73 k (by unfold scX at hk; omega)⟩)
                  | (rw [if_neg (show ¬ w = 0 from c_61)]; exact ⟨rfl, zf_85⟩)
            · skip
              refine j_bipush (v := -2) C dX9_tells_57 rfl ?_
              refine hret _ _ _ _ dX9_tells_59 rfl ?_
              refine ok_pos ⟨nI_0le (n := 4) hi_2 (by decide), ⟨(nI_0le hi_9 (by omega)).1, by rw [hX.1.1]; exact (nI_0le hi_9 (by omega)).2⟩, by simp only [Int32.lt_iff_toInt_lt, Int32.le_iff_toInt_le, ← Int32.toInt_inj, Int32.reduceToInt] at c_25 c_30 ⊢; omega⟩ ?_
              rw [nI_clamp (show i_2 < 2147483648 by omega), nI_clamp (show i_9 < 2147483648 by omega)]
              exact ⟨by rw [if_neg b_38, if_pos (by simp only [Int32.lt_iff_toInt_lt, Int32.le_iff_toInt_le, ← Int32.toInt_inj, Int32.reduceToInt] at c_54 ⊢; omega)], fkX_r⟩
        · skip
          refine j_bipush (v := -2) C dX9_tells_33 rfl ?_
          refine hret _ _ _ _ dX9_tells_35 rfl ?_
          first
            | exact ⟨(if_neg (fun h => hno_2 h.1)).symm, fkX_r⟩
            | exact ⟨(if_neg (fun h => hno_9 h.2.1)).symm, fkX_r⟩
            | exact ⟨(if_neg (fun h => by have := h.2.2; simp only [Int32.lt_iff_toInt_lt, Int32.le_iff_toInt_le, ← Int32.toInt_inj, Int32.reduceToInt] at *; omega)).symm, fkX_r⟩
    · skip
      refine j_astoreN (lv' := [(5, _), (4, _), (0, _), (1, _), (2, _), (3, _)]) C dX9_tells_12 (by decide) rfl ?_
      refine j_aload C dX9_tells_14 rfl ?_
      refine j_ifnull C dX9_tells_16 ?_
      refine j_aloadN C dX9_tells_19 rfl ?_
      refine j_ifnullN (tgt := 33) C dX9_tells_21 (by decide) ?_
      refine j_bipush (v := -2) C dX9_tells_33 rfl ?_
      refine hret _ _ _ _ dX9_tells_35 rfl ?_
      first
        | exact ⟨(if_neg (fun h => hno_2 h.1)).symm, fkX_r⟩
        | exact ⟨(if_neg (fun h => hno_9 h.2.1)).symm, fkX_r⟩
        | exact ⟨(if_neg (fun h => by have := h.2.2; simp only [Int32.lt_iff_toInt_lt, Int32.le_iff_toInt_le, ← Int32.toInt_inj, Int32.reduceToInt] at *; omega)).symm, fkX_r⟩
  · skip
    refine j_astoreN (lv' := [(4, _), (0, _), (1, _), (2, _), (3, _)]) C dX9_tells_5 (by decide) rfl ?_
    refine j_aload_n C dX9_tells_7 rfl rfl ?_
    refine j_iload_n C dX9_tells_8 rfl rfl ?_
    refine j_callqv C (c_X9_gloveAt _ _ _ _ _ n hX.1.1 hn6) dX9_tells_9 jm_RX9_110 ⟨_, _, _, _, wO cX0, rfl, rfl⟩ ⟨by decide, by decide, by decide, by decide⟩ rfl (Nat.le_of_ble_eq_true rfl) (fun r z hz => ?_)
    obtain ⟨hb, hz⟩ := hz; have hz := hz.symm; subst hz
    rcases hb with ⟨i_9, hi_9, he_9, rfl⟩ | ⟨hno_9, rfl⟩
    · skip
      subst he_9
      have hGl : isGl (28 + i_9) := isGl_h (by omega)
      refine j_astore (lv' := [(5, _), (4, _), (0, _), (1, _), (2, _), (3, _)]) C dX9_tells_12 (by decide) rfl ?_
      refine j_aloadN C dX9_tells_14 rfl ?_
      refine j_ifnullN (tgt := 33) C dX9_tells_16 (by decide) ?_
      refine j_bipush (v := -2) C dX9_tells_33 rfl ?_
      refine hret _ _ _ _ dX9_tells_35 rfl ?_
      first
        | exact ⟨(if_neg (fun h => hno_2 h.1)).symm, fkX_r⟩
        | exact ⟨(if_neg (fun h => hno_9 h.2.1)).symm, fkX_r⟩
        | exact ⟨(if_neg (fun h => by have := h.2.2; simp only [Int32.lt_iff_toInt_lt, Int32.le_iff_toInt_le, ← Int32.toInt_inj, Int32.reduceToInt] at *; omega)).symm, fkX_r⟩
    · skip
      refine j_astoreN (lv' := [(5, _), (4, _), (0, _), (1, _), (2, _), (3, _)]) C dX9_tells_12 (by decide) rfl ?_
      refine j_aloadN C dX9_tells_14 rfl ?_
      refine j_ifnullN (tgt := 33) C dX9_tells_16 (by decide) ?_
      refine j_bipush (v := -2) C dX9_tells_33 rfl ?_
      refine hret _ _ _ _ dX9_tells_35 rfl ?_
      first
        | exact ⟨(if_neg (fun h => hno_2 h.1)).symm, fkX_r⟩
        | exact ⟨(if_neg (fun h => hno_9 h.2.1)).symm, fkX_r⟩
        | exact ⟨(if_neg (fun h => by have := h.2.2; simp only [Int32.lt_iff_toInt_lt, Int32.le_iff_toInt_le, ← Int32.toInt_inj, Int32.reduceToInt] at *; omega)).symm, fkX_r⟩
set_option maxHeartbeats 4000000 in
set_option maxRecDepth 100000 in
theorem c_X9_film (l : Launch) (g : jG) (a : Nat → Nat) (M : (Nat → Nat → Int32)) (s : Int32) (p : Int32) (q : Int32) (n t ru : Nat) (T : Nat → Nat → List Int32) (hX : inX M n t ru T) : Ci l g yX9_film cX9_film 7 .int 4 96 0 0 (cW g a) [.ref (a 0), .int s, .int p, .int q] M (fun r z => (if (0 ≤ s ∧ s < 4) ∧ (0 ≤ p ∧ p < M 0 1) ∧ (0 ≤ q ∧ q < 31) then r = q ∧ (∀ k, ¬ scX k → k ≠ 52 + 2 * s.toNatClampNeg → k ≠ 52 + 2 * s.toNatClampNeg + 1 → z k = M k) ∧ z (52 + 2 * s.toNatClampNeg) 1 = 0 ∧ z (52 + 2 * s.toNatClampNeg) 2 = q ∧ (∀ d, d < q.toNatClampNeg → z (52 + 2 * s.toNatClampNeg + 1) d = (whS (T ru) (M (28 + p.toNatClampNeg)) (M 2 0) d).toInt8.toInt32) else r = -2 ∧ z = M)) := by
  refine mk_i (by decide +kernel) rfl (fun KK hKl hKg C hin hret => ?_)
  subst hKl; subst hKg
  refine j_lv (lv' := [(0, _), (1, _), (2, _), (3, _)]) rfl ?_
  have hn6 := hX.1.2
  have hru : isTx (34 + 3 * ru) := isTx_h (show ru < 6 by have h1 := hX.2.2.1.2; have h2 := hX.2.1.2.2; omega)
  refine j_aload_n C dX9_film_0 rfl rfl ?_
  refine j_iload_n C dX9_film_1 rfl rfl ?_
  refine j_callqv C (c_X9_rowAt _ _ _ _ _ ) dX9_film_2 jm_RX9_226 ⟨_, _, _, _, wO cX0, rfl, rfl⟩ ⟨by decide, by decide, by decide, by decide⟩ rfl (Nat.le_of_ble_eq_true rfl) (fun r z hz => ?_)
  obtain ⟨hb, hz⟩ := hz; have hz := hz.symm; subst hz
  rcases hb with ⟨i_2, hi_2, he_2, rfl⟩ | ⟨hno_2, rfl⟩
  · skip
    subst he_2
    have hRw : isRw (52 + 2 * i_2) := isRw_h hi_2
    refine j_astore (lv' := [(4, _), (0, _), (1, _), (2, _), (3, _)]) C dX9_film_5 (by decide) rfl ?_
    refine j_aload_n C dX9_film_7 rfl rfl ?_
    refine j_iload_n C dX9_film_8 rfl rfl ?_
    refine j_callqv C (c_X9_gloveAt _ _ _ _ _ n hX.1.1 hn6) dX9_film_9 jm_RX9_110 ⟨_, _, _, _, wO cX0, rfl, rfl⟩ ⟨by decide, by decide, by decide, by decide⟩ rfl (Nat.le_of_ble_eq_true rfl) (fun r z hz => ?_)
    obtain ⟨hb, hz⟩ := hz; have hz := hz.symm; subst hz
    rcases hb with ⟨i_9, hi_9, he_9, rfl⟩ | ⟨hno_9, rfl⟩
    · skip
      subst he_9
      have hGl : isGl (28 + i_9) := isGl_h (by omega)
      refine j_astore (lv' := [(5, _), (4, _), (0, _), (1, _), (2, _), (3, _)]) C dX9_film_12 (by decide) rfl ?_
      refine j_aload C dX9_film_14 rfl ?_
      refine j_ifnull C dX9_film_16 ?_
      refine j_aload C dX9_film_19 rfl ?_
      refine j_ifnull C dX9_film_21 ?_
      refine j_iload_n C dX9_film_24 rfl rfl ?_
      refine j_bipush (v := 31) C dX9_film_25 rfl ?_
      refine j_callis C (c_X9_isIn _ _ _ _ _ _ ) dX9_film_27 jm_RX9_154 ⟨by decide, by decide, by decide, by decide⟩ rfl (Nat.le_of_ble_eq_true rfl) (fun r z hz => ?_)
      obtain ⟨hb, hz⟩ := hz; have hz := hz.symm; subst hz
      rcases hb with ⟨rfl, b_q⟩ | ⟨rfl, b_q⟩
      · skip
        obtain ⟨qn, hq, rfl⟩ := in_of (B := 31) b_q rfl
        refine j_if_ne (tgt := 36) C dX9_film_30 (by decide) (fun _ => ?_) (fun c => absurd c (by decide))
        refine j_aload_n C dX9_film_36 rfl rfl ?_
        refine j_get C dX9_film_37 jf_RX9_51 (wO cX0) rfl ?_
        refine j_aload_n C dX9_film_40 rfl rfl ?_
        refine j_callqv C (c_X9_ruleText _ _ _ _  n t ru T hX) dX9_film_41 jm_RX9_205 ⟨_, _, _, _, wO cX0, rfl, rfl⟩ ⟨by decide, by decide, by decide, by decide⟩ rfl (Nat.le_of_ble_eq_true rfl) (fun r z hz => ?_)
        obtain ⟨hr, hz⟩ := hz; have hr := hr.symm; have hz := hz.symm; subst hr; subst hz
        refine j_top (v' := .ref (a (34 + 3 * ru))) rfl ?_
        refine j_aload C dX9_film_44 rfl ?_
        refine j_aload_n C dX9_film_46 rfl rfl ?_
        refine j_get C dX9_film_47 jf_RX9_18 (wO cX0) rfl ?_
        refine j_get C dX9_film_50 jf_RX9_121 (wO (cWk (Or.inl rfl))) rfl ?_
        refine j_callvv C (c_X0_follow _ _ _ _ (34 + 3 * ru) hru (28 + i_9) (isGl_h (Nat.lt_of_lt_of_le hi_9 hn6)) _ (T ru) (hX.2.2.2.2 ru hX.2.2.1.2)) dX9_film_53 jm_RX9_209 ⟨_, _, _, _, wO cCo, rfl, rfl⟩ ⟨by decide, by decide, by decide, by decide⟩ rfl (Nat.le_of_ble_eq_true rfl) (fun z_53 hz_53 => ?_)
        obtain ⟨zf_53, zw_53⟩ := hz_53
        refine j_aload C dX9_film_56 rfl ?_
        refine j_iconst (v := 0) C dX9_film_58 rfl ?_
        refine j_iload_n C dX9_film_59 rfl rfl ?_
        refine j_callvv C (c_X5_become _ _ _ _ (52 + 2 * i_2) (isRw_h hi_2) _ _ ) dX9_film_60 jm_RX9_257 ⟨_, _, _, _, wO (cRw (isRw_h hi_2)), rfl, rfl⟩ ⟨by decide, by decide, by decide, by decide⟩ rfl (Nat.le_of_ble_eq_true rfl) (fun z_60 hz_60 => ?_)
        obtain ⟨zk_60, zi_60, zf_60⟩ := hz_60
        refine j_iconst (v := 0) C dX9_film_63 rfl ?_
        refine j_istore (lv' := [(6, _), (5, _), (4, _), (0, _), (1, _), (2, _), (3, _)]) C dX9_film_64 (by decide) rfl ?_
        have L_66 : ∀ k : Nat, ∀ (d : Nat) (M' : Nat → Nat → Int32), d ≤ qn → qn < d + k → (∀ k, k ≠ 52 + 2 * i_2 + 1 → M' k = z_60 k) → (∀ e, e < d → M' (52 + 2 * i_2 + 1) e = (whS (T ru) (M (28 + i_9)) (M 2 0) e).toInt8.toInt32) → J KK (cW (kG KK) a) 0 0 M' [(0, .ref (a 0)), (1, .int (nI i_2)), (2, .int (nI i_9)), (3, .int (nI qn)), (4, .ref (a (52 + 2 * i_2))), (6, .int (nI d))] 66 [] := by
          intro k
          induction k with
          | zero => intro d M' h1 hk hF hW; omega
          | succ k ih =>
            intro d M' h1 hk hF hW
            have e_d : (nI d).toInt = d := nI_toInt (by omega); have e_qn : (nI qn).toInt = qn := nI_toInt (by omega)
            refine j_iload C dX9_film_66 rfl ?_
            refine j_iload_n C dX9_film_68 rfl rfl ?_
            refine j_icmp_ge (tgt := 101) C dX9_film_69 (by decide) (fun c_2 => ?_) (fun c_2 => ?_)
            · skip
              have hd : d = qn := by simp only [Int32.lt_iff_toInt_lt, Int32.le_iff_toInt_le, ← Int32.toInt_inj, Int32.reduceToInt, e_d, e_qn] at c_2; omega
              subst hd
              refine j_iload_n C dX9_film_101 rfl rfl ?_
              refine hret _ _ _ _ dX9_film_102 rfl ?_
              rw [if_pos ⟨nI_0le (n := 4) hi_2 (by decide), ⟨(nI_0le hi_9 (by omega)).1, by rw [hX.1.1]; exact (nI_0le hi_9 (by omega)).2⟩, nI_0le (n := 31) hq (by decide)⟩, nI_clamp (show i_2 < 2147483648 by omega), nI_clamp (show i_9 < 2147483648 by omega), nI_clamp (show d < 2147483648 by omega)]
              refine ⟨rfl, fun k h1 h2 h3 => ?_, ?_, ?_, hW⟩
              · rw [hF k h3, zf_60 k h2 h3, zf_53 k (by unfold scX at h1; omega) (by unfold scX at h1; omega) (by unfold scX at h1; omega)]
              · rw [hF _ (by omega), zk_60, upd, upd, if_neg (by decide), if_pos rfl]
              · rw [hF _ (by omega), zk_60, upd, if_pos rfl]
            · skip
              have hd : d < qn := by simp only [Int32.lt_iff_toInt_lt, Int32.le_iff_toInt_le, ← Int32.toInt_inj, Int32.reduceToInt, e_d, e_qn] at c_2; omega
              refine j_iload C dX9_film_72 rfl ?_
              refine j_bipush (v := 30) C dX9_film_74 rfl ?_
              refine j_icmp_ge (tgt := 101) C dX9_film_76 (by decide) (fun c_3 => ?_) (fun c_3 => ?_)
              · skip
                exact absurd c_3 (nI_ge (show d < 30 by omega) (by decide))
              · skip
                refine j_aload C dX9_film_79 rfl ?_
                refine j_iload C dX9_film_81 rfl ?_
                refine j_aload_n C dX9_film_83 rfl rfl ?_
                refine j_get C dX9_film_84 jf_RX9_51 (wO cX0) rfl ?_
                refine j_iload C dX9_film_87 rfl ?_
                refine j_calliv C (c_X0_whereOn _ _ _ _ _ d rfl (by omega)) dX9_film_89 jm_RX9_177 ⟨_, _, _, _, wO cCo, rfl, rfl⟩ ⟨by decide, by decide, by decide, by decide⟩ rfl (Nat.le_of_ble_eq_true rfl) (fun r_89 z_89 hz_89 => ?_)
                obtain ⟨hr, hz⟩ := hz_89; have hz := hz.symm; subst hz
                rw [hF 21 (by omega), zf_60 21 (by omega) (by omega), zw_53 d (by omega)] at hr; have hr := hr.symm; subst hr
                refine j_callvv C (c_X5_put _ _ _ _ (52 + 2 * i_2) (isRw_h hi_2) _ _ ) dX9_film_92 jm_RX9_260 ⟨_, _, _, _, wO (cRw (isRw_h hi_2)), rfl, rfl⟩ ⟨by decide, by decide, by decide, by decide⟩ rfl (Nat.le_of_ble_eq_true rfl) (fun z_92 hz_92 => ?_)
                have h0 : M' (52 + 2 * i_2) 1 = 0 := by rw [hF _ (by omega), zk_60, upd, upd, if_neg (by decide), if_pos rfl]
                have h2 : M' (52 + 2 * i_2) 2 = nI qn := by rw [hF _ (by omega), zk_60, upd, if_pos rfl]
                rw [if_pos ⟨nI_pos' (by omega), by rw [h2]; exact nI_lt hd (by omega), nI_lt (b := 40) (by omega) (by decide)⟩, if_pos h0, nI_clamp (show d < 2147483648 by omega)] at hz_92
                have hz_92 := hz_92.symm; subst hz_92
                refine j_iinc (lv' := [(6, _), (0, _), (1, _), (2, _), (3, _), (4, _)]) (v := nI (d + 1)) C dX9_film_95 rfl (j_inc1 d) (by decide) rfl ?_
                refine j_goto (tgt := 66) C dX9_film_98 (by decide) ?_
                refine j_lv (lv' := [(0, _), (1, _), (2, _), (3, _), (4, _), (6, _)]) rfl ?_
                exact ih (d + 1) _ (by omega) (by omega) (fun k hk => by rw [uM_ne hk]; exact hF k hk) (fun e he => by
                  by_cases h : e = d
                  · subst h; rw [uM_s]
                  · rw [uM_n h]; exact hW e (by omega))
        refine j_lv (lv' := [(0, _), (1, _), (2, _), (3, _), (4, _), (6, _)]) rfl ?_
        exact L_66 (qn + 1) 0 _ (by omega) (by omega) (fun _ _ => rfl) (fun e he => absurd he (by omega))
      · skip
        refine j_if_ne (tgt := 36) C dX9_film_30 (by decide) (fun c => absurd (by decide) c) (fun _ => ?_)
        refine j_bipush (v := -2) C dX9_film_33 rfl ?_
        refine hret _ _ _ _ dX9_film_35 rfl ?_
        first
          | (rw [if_neg (fun h => hno_2 h.1)]; exact ⟨rfl, rfl⟩)
          | (rw [if_neg (fun h => hno_9 h.2.1)]; exact ⟨rfl, rfl⟩)
          | (rw [if_neg (fun h => b_q h.2.2)]; exact ⟨rfl, rfl⟩)
    · skip
      refine j_astoreN (lv' := [(5, _), (4, _), (0, _), (1, _), (2, _), (3, _)]) C dX9_film_12 (by decide) rfl ?_
      refine j_aload C dX9_film_14 rfl ?_
      refine j_ifnull C dX9_film_16 ?_
      refine j_aloadN C dX9_film_19 rfl ?_
      refine j_ifnullN (tgt := 33) C dX9_film_21 (by decide) ?_
      refine j_bipush (v := -2) C dX9_film_33 rfl ?_
      refine hret _ _ _ _ dX9_film_35 rfl ?_
      first
        | (rw [if_neg (fun h => hno_2 h.1)]; exact ⟨rfl, rfl⟩)
        | (rw [if_neg (fun h => hno_9 h.2.1)]; exact ⟨rfl, rfl⟩)
        | (rw [if_neg (fun h => b_q h.2.2)]; exact ⟨rfl, rfl⟩)
  · skip
    refine j_astoreN (lv' := [(4, _), (0, _), (1, _), (2, _), (3, _)]) C dX9_film_5 (by decide) rfl ?_
    refine j_aload_n C dX9_film_7 rfl rfl ?_
    refine j_iload_n C dX9_film_8 rfl rfl ?_
    refine j_callqv C (c_X9_gloveAt _ _ _ _ _ n hX.1.1 hn6) dX9_film_9 jm_RX9_110 ⟨_, _, _, _, wO cX0, rfl, rfl⟩ ⟨by decide, by decide, by decide, by decide⟩ rfl (Nat.le_of_ble_eq_true rfl) (fun r z hz => ?_)
    obtain ⟨hb, hz⟩ := hz; have hz := hz.symm; subst hz
    rcases hb with ⟨i_9, hi_9, he_9, rfl⟩ | ⟨hno_9, rfl⟩
    · skip
      subst he_9
      have hGl : isGl (28 + i_9) := isGl_h (by omega)
      refine j_astore (lv' := [(5, _), (4, _), (0, _), (1, _), (2, _), (3, _)]) C dX9_film_12 (by decide) rfl ?_
      refine j_aloadN C dX9_film_14 rfl ?_
      refine j_ifnullN (tgt := 33) C dX9_film_16 (by decide) ?_
      refine j_bipush (v := -2) C dX9_film_33 rfl ?_
      refine hret _ _ _ _ dX9_film_35 rfl ?_
      first
        | (rw [if_neg (fun h => hno_2 h.1)]; exact ⟨rfl, rfl⟩)
        | (rw [if_neg (fun h => hno_9 h.2.1)]; exact ⟨rfl, rfl⟩)
        | (rw [if_neg (fun h => b_q h.2.2)]; exact ⟨rfl, rfl⟩)
    · skip
      refine j_astoreN (lv' := [(5, _), (4, _), (0, _), (1, _), (2, _), (3, _)]) C dX9_film_12 (by decide) rfl ?_
      refine j_aloadN C dX9_film_14 rfl ?_
      refine j_ifnullN (tgt := 33) C dX9_film_16 (by decide) ?_
      refine j_bipush (v := -2) C dX9_film_33 rfl ?_
      refine hret _ _ _ _ dX9_film_35 rfl ?_
      first
        | (rw [if_neg (fun h => hno_2 h.1)]; exact ⟨rfl, rfl⟩)
        | (rw [if_neg (fun h => hno_9 h.2.1)]; exact ⟨rfl, rfl⟩)
        | (rw [if_neg (fun h => b_q h.2.2)]; exact ⟨rfl, rfl⟩)
