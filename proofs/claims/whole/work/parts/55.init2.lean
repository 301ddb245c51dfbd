def rNew : Nat → Int32 := fun i => if i = 1 then -1 else 0
def mNew : Nat → Nat → Int32 := fun k => if k = 52 then rNew else if k = 54 then rNew else if k = 56 then rNew else if k = 58 then rNew else fun _ => 0
/-- the class's state at first -/
def in0 (M : Nat → Nat → Int32) : Prop := M 0 1 = 0 ∧ M 0 4 = 1 ∧ M 0 5 = 0 ∧ (M 2 0 = 0 ∧ M 2 1 = 19 ∧ M 2 2 = 0) ∧ M 5 1 = 0 ∧ (M 11 4 = 0 ∧ M 11 2 = 0) ∧ (∀ i, i < 4 → M (52 + 2 * i) 1 = -1 ∧ M (52 + 2 * i) 2 = 0) ∧ txR M 34 tRul
set_option maxHeartbeats 4000000 in
set_option maxRecDepth 100000 in
theorem k_X9_init {KK : jK} (C : Cx KK yX9_init.cls cX9_init 2 103 2122 59 2182) (a : Nat → Nat) (hret : ∀ (pc : Nat) (lv : List (Nat × Value)) (z : Nat → Nat → Int32), decode cX9_init pc = .ok (.return_, 1) → in0 z → J KK (cW (kG KK) a) 59 2182 z lv pc []) : J KK (cW (kG KK) a) 59 2182 mNew [(0, .ref (a 0)), (1, .int 4)] 186 [] := by
  refine j_aload_n C dX9_init_186 rfl rfl ?_
  refine j_get C dX9_init_187 jf_RX9_18 (wO cX0) rfl ?_
  refine j_iconst (v := 0) C dX9_init_190 rfl ?_
  refine j_bipush (v := 19) C dX9_init_191 rfl ?_
  refine j_iconst (v := 0) C dX9_init_193 rfl ?_
  refine j_callvv C (c_X8_become _ _ _ _ 2 (Or.inl rfl) _ _ _ ) dX9_init_194 jm_RX9_65 ⟨_, _, _, _, wO (cWk (Or.inl rfl)), rfl, rfl⟩ ⟨by decide, by decide, by decide, by decide⟩ rfl (Nat.le_of_ble_eq_true rfl) (fun z_194 hz_194 => ?_)
  have hz_194 := hz_194.symm; subst hz_194
  refine j_iconst (v := 0) C dX9_init_197 rfl ?_
  refine j_istore_n (lv' := [(1, _), (0, _)]) C dX9_init_198 rfl (by decide) rfl ?_
  have L_199 : ∀ k : Nat, ∀ (i : Nat) (M' : Nat → Nat → Int32), i ≤ 44 → 44 < i + k → M' 5 1 = nI i → (∀ j, j < i → M' 6 j = rB j) → (∀ j, i ≤ j → M' 6 j = 0) → (∀ k, k ≠ 5 → k ≠ 6 → M' k = (uM (uM (uM mNew 2 0 0) 2 1 19) 2 2 0) k) → J KK (cW (kG KK) a) 59 2182 M' [(0, .ref (a 0)), (1, .int (nI i))] 199 [] := by
    intro k
    induction k with
    | zero => intro i M' h1 hk hc hA hB hF; omega
    | succ k ih =>
      intro i M' h1 hk hc hA hB hF
      have e_i : (nI i).toInt = i := nI_toInt (by omega)
      have e_l : (nI (sLen.getD 0 0)).toInt = 44 := nI_toInt (n := 44) (by decide)
      refine j_iload_n C dX9_init_199 rfl rfl ?_
      refine j_ldcS C 0 (by decide) dX9_init_200 rfl rfl ?_
      refine j_callivR C (c_J0_length_8abf5 _ _ _ _ 0 (by decide) ) dX9_init_202 jm_RX9_71 (j_srec C (by decide)) ⟨by decide, by decide, by decide, by decide⟩ rfl (Nat.le_of_ble_eq_true rfl) (fun r z hz => ?_)
      obtain ⟨hr, hz⟩ := hz; have hr := hr.symm; have hz := hz.symm; subst hr; subst hz
      refine j_icmp_ge (tgt := 231) C dX9_init_205 (by decide) (fun c_205 => ?_) (fun c_205 => ?_)
      · skip
        have hi : i = 44 := by simp only [Int32.lt_iff_toInt_lt, Int32.le_iff_toInt_le, ← Int32.toInt_inj, Int32.reduceToInt, e_i, e_l] at c_205; omega
        subst hi
        have h6 : M' 6 = rB := by
          funext j
          by_cases h : j < 44
          · exact hA j h
          · rw [hB j (by omega), rB, List.getD_eq_getElem?_getD, List.getElem?_eq_none (by simpa [sByt] using (show 44 ≤ j by omega))]; rfl
        refine j_aload_n C dX9_init_231 rfl rfl ?_
        refine j_get C dX9_init_232 jf_RX9_31 (wO cX0) rfl ?_
        refine j_aload_n C dX9_init_235 rfl rfl ?_
        refine j_get C dX9_init_236 jf_RX9_24 (wO cX0) rfl ?_
        refine j_iconst (v := 0) C dX9_init_239 rfl ?_
        refine j_aald C (0) dX9_init_240 (wR cR3) gty_3 (rfl) (by decide) (by decide) ?_
        refine j_calliv C (c_X3_read _ _ _ _ (34 + 3 * (0)) (isTx_h (by decide)) 44 ⟨hc, by decide⟩) dX9_init_241 jm_RX9_91 ⟨_, _, _, _, wO cRd, rfl, rfl⟩ ⟨by decide, by decide, by decide, by decide⟩ rfl (Nat.le_of_ble_eq_true rfl) (fun r_241 z_241 hz_241 => ?_)
        obtain ⟨zf_241, zj_241, zr_241⟩ := hz_241
        rw [h6, rB_tc.1, rB_tc.2, rul0] at zr_241
        have hT := (zr_241.resolve_right (fun h => by obtain ⟨q, h, _⟩ := h; exact absurd h (by simp))).2.2
        refine j_pop C dX9_init_244 rfl ?_
        refine j_aload_n C dX9_init_245 rfl rfl ?_
        refine j_get C dX9_init_246 jf_RX9_31 (wO cX0) rfl ?_
        refine j_getN C dX9_init_249 jfn_RX9_77 (wO cRd) rfl ?_
        refine j_callvv C (c_X6_empty _ _ _ _  ) dX9_init_252 jm_RX9_95 ⟨_, _, _, _, wO cTp, rfl, rfl⟩ ⟨by decide, by decide, by decide, by decide⟩ rfl (Nat.le_of_ble_eq_true rfl) (fun z_252 hz_252 => ?_)
        have hz_252 := hz_252.symm; subst hz_252
        refine j_aload_n C dX9_init_255 rfl rfl ?_
        refine j_iconst (v := 1) C dX9_init_256 rfl ?_
        refine j_put C dX9_init_257 jp_RX9_98 (wO cX0) (Nat.le_of_ble_eq_true rfl) rfl rfl (sO cX0 4 _ rfl) ?_
        refine hret _ _ _ dX9_init_260 ?_
        have f0 : ∀ k, k ≠ 4 → k ≠ 5 → k ≠ 6 → k ≠ 7 → k ≠ 8 → k ≠ 9 → k ≠ 34 → k ≠ 35 → k ≠ 36 → z_241 k = (uM (uM (uM mNew 2 0 0) 2 1 19) 2 2 0) k := fun k a b c d e f g h i => (zf_241 k a b d e f g h i).trans (hF k b c)
        refine ⟨?_, by rw [uM_s], ?_, ⟨?_, ?_, ?_⟩, ?_, ⟨?_, ?_⟩, fun j hj => ?_, ?_⟩
        · rw [uM_n (by decide), uM_ne (by decide), f0 0 (by decide) (by decide) (by decide) (by decide) (by decide) (by decide) (by decide) (by decide) (by decide)]; rfl
        · rw [uM_n (by decide), uM_ne (by decide), f0 0 (by decide) (by decide) (by decide) (by decide) (by decide) (by decide) (by decide) (by decide) (by decide)]; rfl
        · rw [uM_ne (by decide), uM_ne (by decide), f0 2 (by decide) (by decide) (by decide) (by decide) (by decide) (by decide) (by decide) (by decide) (by decide)]; rfl
        · rw [uM_ne (by decide), uM_ne (by decide), f0 2 (by decide) (by decide) (by decide) (by decide) (by decide) (by decide) (by decide) (by decide) (by decide)]; rfl
        · rw [uM_ne (by decide), uM_ne (by decide), f0 2 (by decide) (by decide) (by decide) (by decide) (by decide) (by decide) (by decide) (by decide) (by decide)]; rfl
        · rw [uM_ne (by decide), uM_s]
        · rw [uM_ne (by decide), uM_ne (by decide), f0 11 (by decide) (by decide) (by decide) (by decide) (by decide) (by decide) (by decide) (by decide) (by decide)]; rfl
        · rw [uM_ne (by decide), uM_ne (by decide), f0 11 (by decide) (by decide) (by decide) (by decide) (by decide) (by decide) (by decide) (by decide) (by decide)]; rfl
        · rw [uM_ne (by omega), uM_ne (by omega), f0 (52 + 2 * j) (by omega) (by omega) (by omega) (by omega) (by omega) (by omega) (by omega) (by omega) (by omega), uM_ne (by omega), uM_ne (by omega), uM_ne (by omega)]
          have hj4 : j = 0 ∨ j = 1 ∨ j = 2 ∨ j = 3 := by omega
          rcases hj4 with rfl | rfl | rfl | rfl <;> exact ⟨rfl, rfl⟩
        · exact txR_c hT (by rw [uM_ne (by decide), uM_ne (by decide)]) (by rw [uM_ne (by decide), uM_ne (by decide)])
      · skip
        have hi : i < 44 := by simp only [Int32.lt_iff_toInt_lt, Int32.le_iff_toInt_le, ← Int32.toInt_inj, Int32.reduceToInt, e_i, e_l] at c_205; omega
        refine j_aload_n C dX9_init_208 rfl rfl ?_
        refine j_get C dX9_init_209 jf_RX9_31 (wO cX0) rfl ?_
        refine j_getN C dX9_init_212 jfn_RX9_77 (wO cRd) rfl ?_
        refine j_ldcS C 0 (by decide) dX9_init_215 rfl rfl ?_
        refine j_iload_n C dX9_init_217 rfl rfl ?_
        refine j_callivR C (c_J0_charAt_5068e _ _ _ _ 0 (by decide) _ i rfl hi) dX9_init_218 jm_RX9_81 (j_srec C (by decide)) ⟨by decide, by decide, by decide, by decide⟩ rfl (Nat.le_of_ble_eq_true rfl) (fun r z hz => ?_)
        obtain ⟨hr, hz⟩ := hz; have hr := hr.symm; have hz := hz.symm; subst hr; subst hz
        refine j_calliv C (c_X6_add _ _ _ _ _ i hc (by omega)) dX9_init_221 jm_RX9_85 ⟨_, _, _, _, wO cTp, rfl, rfl⟩ ⟨by decide, by decide, by decide, by decide⟩ rfl (Nat.le_of_ble_eq_true rfl) (fun r_221 z_221 hz_221 => ?_)
        have hz9 := (hz_221.resolve_right (fun h => h.2.1 (by omega))).2.2
        have hz9 := hz9.symm; subst hz9
        refine j_pop C dX9_init_224 rfl ?_
        refine j_iinc (lv' := [(1, _), (0, _)]) (v := nI (i + 1)) C dX9_init_225 rfl (j_inc1 i) (by decide) rfl ?_
        refine j_goto (tgt := 199) C dX9_init_228 (by decide) ?_
        refine j_lv (lv' := [(0, _), (1, _)]) rfl ?_
        refine ih (i + 1) _ (by omega) (by omega) (by rw [uM_s]) (fun j hj => ?_) (fun j hj => by rw [uM_ne (by decide), uM_n (by omega)]; exact hB j (by omega)) (fun k a b => by rw [uM_ne a, uM_ne b]; exact hF k a b)
        rw [uM_ne (by decide)]
        by_cases h : j = i
        · subst h; rw [uM_s]; rfl
        · rw [uM_n h]; exact hA j (by omega)
  refine j_lv (lv' := [(0, _), (1, _)]) rfl ?_
  exact L_199 45 0 _ (by omega) (by omega) (by rw [uM_ne (by decide), uM_ne (by decide), uM_ne (by decide)]; rfl) (fun j h => absurd h (by omega)) (fun j _ => by rw [uM_ne (by decide), uM_ne (by decide), uM_ne (by decide)]; rfl) (fun _ _ _ => rfl)
