/-- eight letters stand from q on -/
def spQ (x z : mS) (q : Nat) (f : Nat → Int32) : Prop := z.2 = x.2 ∧ (∀ k, k ≠ 1 → z.1 k = x.1 k) ∧ (∀ j, (j < q ∨ q + 8 ≤ j) → z.1 1 j = x.1 1 j) ∧ ∀ j, j < 8 → z.1 1 (q + j) = f j
set_option maxHeartbeats 4000000 in
set_option maxRecDepth 100000 in
theorem c_X10_spell (l : Launch) (g : jG) (a : Nat → Nat) (x : mS) (p : Int32) (v1 : Int32) (v2 : Int32) (v3 : Int32) (v4 : Int32) (v5 : Int32) (v6 : Int32) (v7 : Int32) (v8 : Int32) (q : Nat) (hq : p = nI q) (hq8 : q + 8 ≤ 960) : Cv l g yX10_spell cX10_spell 10 0 0 0 0 (mW g a) [.ref (a 0), .int p, .int v1, .int v2, .int v3, .int v4, .int v5, .int v6, .int v7, .int v8] x (fun z => spQ x z q (fun j => [v1, v2, v3, v4, v5, v6, v7, v8].getD j 0)) := by
  refine mk_v (by decide +kernel) rfl (fun KK hKl hKg C hin hret => ?_)
  subst hKl; subst hKg
  refine j_lv (lv' := [(0, _), (1, _), (2, _), (3, _), (4, _), (5, _), (6, _), (7, _), (8, _), (9, _)]) rfl ?_
  subst hq
  refine j_aload_n C dX10_spell_0 rfl rfl ?_
  refine j_get C dX10_spell_1 jf_RX10_13 (wO mO) rfl ?_
  refine j_iload_n C dX10_spell_4 rfl rfl ?_
  refine j_iload_n C dX10_spell_5 rfl rfl ?_
  refine j_iast C (q) dX10_spell_6 (wA mA1) (rfl) (by omega) (by decide) (sMa mA1 _ _) ?_
  refine j_aload_n C dX10_spell_7 rfl rfl ?_
  refine j_get C dX10_spell_8 jf_RX10_13 (wO mO) rfl ?_
  refine j_iload_n C dX10_spell_11 rfl rfl ?_
  refine j_iconst (v := 1) C dX10_spell_12 rfl ?_
  refine j_iadd C dX10_spell_13 ?_
  refine j_iload_n C dX10_spell_14 rfl rfl ?_
  refine j_iast C (q + 1) dX10_spell_15 (wA mA1) (nI_add q 1) (by omega) (by decide) (sMa mA1 _ _) ?_
  refine j_aload_n C dX10_spell_16 rfl rfl ?_
  refine j_get C dX10_spell_17 jf_RX10_13 (wO mO) rfl ?_
  refine j_iload_n C dX10_spell_20 rfl rfl ?_
  refine j_iconst (v := 2) C dX10_spell_21 rfl ?_
  refine j_iadd C dX10_spell_22 ?_
  refine j_iload C dX10_spell_23 rfl ?_
  refine j_iast C (q + 2) dX10_spell_25 (wA mA1) (nI_add q 2) (by omega) (by decide) (sMa mA1 _ _) ?_
  refine j_aload_n C dX10_spell_26 rfl rfl ?_
  refine j_get C dX10_spell_27 jf_RX10_13 (wO mO) rfl ?_
  refine j_iload_n C dX10_spell_30 rfl rfl ?_
  refine j_iconst (v := 3) C dX10_spell_31 rfl ?_
  refine j_iadd C dX10_spell_32 ?_
  refine j_iload C dX10_spell_33 rfl ?_
  refine j_iast C (q + 3) dX10_spell_35 (wA mA1) (nI_add q 3) (by omega) (by decide) (sMa mA1 _ _) ?_
  refine j_aload_n C dX10_spell_36 rfl rfl ?_
  refine j_get C dX10_spell_37 jf_RX10_13 (wO mO) rfl ?_
  refine j_iload_n C dX10_spell_40 rfl rfl ?_
  refine j_iconst (v := 4) C dX10_spell_41 rfl ?_
  refine j_iadd C dX10_spell_42 ?_
  refine j_iload C dX10_spell_43 rfl ?_
  refine j_iast C (q + 4) dX10_spell_45 (wA mA1) (nI_add q 4) (by omega) (by decide) (sMa mA1 _ _) ?_
  refine j_aload_n C dX10_spell_46 rfl rfl ?_
  refine j_get C dX10_spell_47 jf_RX10_13 (wO mO) rfl ?_
  refine j_iload_n C dX10_spell_50 rfl rfl ?_
  refine j_iconst (v := 5) C dX10_spell_51 rfl ?_
  refine j_iadd C dX10_spell_52 ?_
  refine j_iload C dX10_spell_53 rfl ?_
  refine j_iast C (q + 5) dX10_spell_55 (wA mA1) (nI_add q 5) (by omega) (by decide) (sMa mA1 _ _) ?_
  refine j_aload_n C dX10_spell_56 rfl rfl ?_
  refine j_get C dX10_spell_57 jf_RX10_13 (wO mO) rfl ?_
  refine j_iload_n C dX10_spell_60 rfl rfl ?_
  refine j_bipush (v := 6) C dX10_spell_61 rfl ?_
  refine j_iadd C dX10_spell_63 ?_
  refine j_iload C dX10_spell_64 rfl ?_
  refine j_iast C (q + 6) dX10_spell_66 (wA mA1) (nI_add q 6) (by omega) (by decide) (sMa mA1 _ _) ?_
  refine j_aload_n C dX10_spell_67 rfl rfl ?_
  refine j_get C dX10_spell_68 jf_RX10_13 (wO mO) rfl ?_
  refine j_iload_n C dX10_spell_71 rfl rfl ?_
  refine j_bipush (v := 7) C dX10_spell_72 rfl ?_
  refine j_iadd C dX10_spell_74 ?_
  refine j_iload C dX10_spell_75 rfl ?_
  refine j_iast C (q + 7) dX10_spell_77 (wA mA1) (nI_add q 7) (by omega) (by decide) (sMa mA1 _ _) ?_
  refine hret _ _ _ dX10_spell_78 ?_
  refine ⟨rfl, fun k hk => by rw [mU_1, uM_ne hk, mU_1, uM_ne hk, mU_1, uM_ne hk, mU_1, uM_ne hk, mU_1, uM_ne hk, mU_1, uM_ne hk, mU_1, uM_ne hk, mU_1, uM_ne hk], fun j hj => by rw [mU_1, uM_n (by omega), mU_1, uM_n (by omega), mU_1, uM_n (by omega), mU_1, uM_n (by omega), mU_1, uM_n (by omega), mU_1, uM_n (by omega), mU_1, uM_n (by omega), mU_1, uM_n (by omega)], fun j hj => ?_⟩
  have h8 : j = 0 ∨ j = 1 ∨ j = 2 ∨ j = 3 ∨ j = 4 ∨ j = 5 ∨ j = 6 ∨ j = 7 := by omega
  rcases h8 with rfl | rfl | rfl | rfl | rfl | rfl | rfl | rfl <;> simp [mU_1, uM_all]
def m0New : Nat → Nat → Int32 := fun k => if k = 0 then (fun i => if i = 31 then -1 else 0) else if k = 4 then upd (upd (upd (fun _ => 0) 0 0) 1 19) 2 0 else fun _ => 0
def xNew : mS := (m0New, 0)
/-- the reference's state at first -/
def in0M (x : mS) : Prop := x.1 0 3 = 1 ∧ x.1 0 4 = 0 ∧ x.1 0 6 = 0 ∧ x.1 0 10 = 0 ∧ x.1 0 31 = -1 ∧ (x.1 4 0 = 0 ∧ x.1 4 1 = 19 ∧ x.1 4 2 = 0) ∧ x.1 2 0 = 48 ∧ (∀ i, i < 48 → x.1 1 i = rB2 i) ∧ ∀ i, i < 4 → x.1 12 i = 0
set_option maxHeartbeats 4000000 in
set_option maxRecDepth 100000 in
theorem k_X10_init {KK : jK} (C : Cx KK yX10_init.cls cX10_init 1 1 29 15 1421) (a : Nat → Nat) (hret : ∀ (pc : Nat) (lv : List (Nat × Value)) (z : mS), decode cX10_init pc = .ok (.return_, 1) → in0M z → J KK (mW (kG KK) a) 15 1421 z lv pc []) : J KK (mW (kG KK) a) 15 1421 xNew [(0, .ref (a 0))] 139 [] := by
  refine j_aload_n C dX10_init_139 rfl rfl ?_
  refine j_iconst (v := 0) C dX10_init_140 rfl ?_
  refine j_bipush (v := 115) C dX10_init_141 rfl ?_
  refine j_bipush (v := 104) C dX10_init_143 rfl ?_
  refine j_bipush (v := 111) C dX10_init_145 rfl ?_
  refine j_bipush (v := 119) C dX10_init_147 rfl ?_
  refine j_bipush (v := 115) C dX10_init_149 rfl ?_
  refine j_bipush (v := 32) C dX10_init_151 rfl ?_
  refine j_bipush (v := 49) C dX10_init_153 rfl ?_
  refine j_bipush (v := 48) C dX10_init_155 rfl ?_
  refine j_callvv C (c_X10_spell _ _ _ _ _ _ _ _ _ _ _ _ _ 0 rfl (by decide)) dX10_init_157 jm_RX10_63 ⟨_, _, _, _, wO mO, rfl, rfl⟩ ⟨by decide, by decide, by decide, by decide⟩ rfl (Nat.le_of_ble_eq_true rfl) (fun z_157 hz_157 => ?_)
  obtain ⟨-, yF_157, yA_157, yB_157⟩ := hz_157
  refine j_aload_n C dX10_init_160 rfl rfl ?_
  refine j_bipush (v := 8) C dX10_init_161 rfl ?_
  refine j_bipush (v := 32) C dX10_init_163 rfl ?_
  refine j_bipush (v := 43) C dX10_init_165 rfl ?_
  refine j_bipush (v := 32) C dX10_init_167 rfl ?_
  refine j_bipush (v := 104) C dX10_init_169 rfl ?_
  refine j_bipush (v := 101) C dX10_init_171 rfl ?_
  refine j_bipush (v := 105) C dX10_init_173 rfl ?_
  refine j_bipush (v := 103) C dX10_init_175 rfl ?_
  refine j_bipush (v := 104) C dX10_init_177 rfl ?_
  refine j_callvv C (c_X10_spell _ _ _ _ _ _ _ _ _ _ _ _ _ 8 rfl (by decide)) dX10_init_179 jm_RX10_63 ⟨_, _, _, _, wO mO, rfl, rfl⟩ ⟨by decide, by decide, by decide, by decide⟩ rfl (Nat.le_of_ble_eq_true rfl) (fun z_179 hz_179 => ?_)
  obtain ⟨-, yF_179, yA_179, yB_179⟩ := hz_179
  refine j_aload_n C dX10_init_182 rfl rfl ?_
  refine j_bipush (v := 16) C dX10_init_183 rfl ?_
  refine j_bipush (v := 116) C dX10_init_185 rfl ?_
  refine j_bipush (v := 32) C dX10_init_187 rfl ?_
  refine j_bipush (v := 42) C dX10_init_189 rfl ?_
  refine j_bipush (v := 32) C dX10_init_191 rfl ?_
  refine j_bipush (v := 49) C dX10_init_193 rfl ?_
  refine j_bipush (v := 48) C dX10_init_195 rfl ?_
  refine j_bipush (v := 32) C dX10_init_197 rfl ?_
  refine j_bipush (v := 59) C dX10_init_199 rfl ?_
  refine j_callvv C (c_X10_spell _ _ _ _ _ _ _ _ _ _ _ _ _ 16 rfl (by decide)) dX10_init_201 jm_RX10_63 ⟨_, _, _, _, wO mO, rfl, rfl⟩ ⟨by decide, by decide, by decide, by decide⟩ rfl (Nat.le_of_ble_eq_true rfl) (fun z_201 hz_201 => ?_)
  obtain ⟨-, yF_201, yA_201, yB_201⟩ := hz_201
  refine j_aload_n C dX10_init_204 rfl rfl ?_
  refine j_bipush (v := 24) C dX10_init_205 rfl ?_
  refine j_bipush (v := 32) C dX10_init_207 rfl ?_
  refine j_bipush (v := 109) C dX10_init_209 rfl ?_
  refine j_bipush (v := 111) C dX10_init_211 rfl ?_
  refine j_bipush (v := 118) C dX10_init_213 rfl ?_
  refine j_bipush (v := 101) C dX10_init_215 rfl ?_
  refine j_bipush (v := 115) C dX10_init_217 rfl ?_
  refine j_bipush (v := 32) C dX10_init_219 rfl ?_
  refine j_bipush (v := 48) C dX10_init_221 rfl ?_
  refine j_callvv C (c_X10_spell _ _ _ _ _ _ _ _ _ _ _ _ _ 24 rfl (by decide)) dX10_init_223 jm_RX10_63 ⟨_, _, _, _, wO mO, rfl, rfl⟩ ⟨by decide, by decide, by decide, by decide⟩ rfl (Nat.le_of_ble_eq_true rfl) (fun z_223 hz_223 => ?_)
  obtain ⟨-, yF_223, yA_223, yB_223⟩ := hz_223
  refine j_aload_n C dX10_init_226 rfl rfl ?_
  refine j_bipush (v := 32) C dX10_init_227 rfl ?_
  refine j_bipush (v := 32) C dX10_init_229 rfl ?_
  refine j_bipush (v := 59) C dX10_init_231 rfl ?_
  refine j_bipush (v := 32) C dX10_init_233 rfl ?_
  refine j_bipush (v := 109) C dX10_init_235 rfl ?_
  refine j_bipush (v := 105) C dX10_init_237 rfl ?_
  refine j_bipush (v := 110) C dX10_init_239 rfl ?_
  refine j_bipush (v := 100) C dX10_init_241 rfl ?_
  refine j_bipush (v := 115) C dX10_init_243 rfl ?_
  refine j_callvv C (c_X10_spell _ _ _ _ _ _ _ _ _ _ _ _ _ 32 rfl (by decide)) dX10_init_245 jm_RX10_63 ⟨_, _, _, _, wO mO, rfl, rfl⟩ ⟨by decide, by decide, by decide, by decide⟩ rfl (Nat.le_of_ble_eq_true rfl) (fun z_245 hz_245 => ?_)
  obtain ⟨-, yF_245, yA_245, yB_245⟩ := hz_245
  refine j_aload_n C dX10_init_248 rfl rfl ?_
  refine j_bipush (v := 40) C dX10_init_249 rfl ?_
  refine j_bipush (v := 32) C dX10_init_251 rfl ?_
  refine j_bipush (v := 49) C dX10_init_253 rfl ?_
  refine j_bipush (v := 32) C dX10_init_255 rfl ?_
  refine j_bipush (v := 59) C dX10_init_257 rfl ?_
  refine j_bipush (v := 32) C dX10_init_259 rfl ?_
  refine j_bipush (v := 32) C dX10_init_261 rfl ?_
  refine j_bipush (v := 32) C dX10_init_263 rfl ?_
  refine j_bipush (v := 32) C dX10_init_265 rfl ?_
  refine j_callvv C (c_X10_spell _ _ _ _ _ _ _ _ _ _ _ _ _ 40 rfl (by decide)) dX10_init_267 jm_RX10_63 ⟨_, _, _, _, wO mO, rfl, rfl⟩ ⟨by decide, by decide, by decide, by decide⟩ rfl (Nat.le_of_ble_eq_true rfl) (fun z_267 hz_267 => ?_)
  obtain ⟨-, yF_267, yA_267, yB_267⟩ := hz_267
  refine j_aload_n C dX10_init_270 rfl rfl ?_
  refine j_get C dX10_init_271 jf_RX10_17 (wO mO) rfl ?_
  refine j_iconst (v := 0) C dX10_init_274 rfl ?_
  refine j_bipush (v := 48) C dX10_init_275 rfl ?_
  refine j_iast C (0) dX10_init_277 (wA mA2) (rfl) (by decide) (by decide) (sMa mA2 _ _) ?_
  refine j_aload_n C dX10_init_278 rfl rfl ?_
  refine j_iconst (v := 1) C dX10_init_279 rfl ?_
  refine j_put C dX10_init_280 jp_RX10_67 (wO mO) (Nat.le_of_ble_eq_true rfl) rfl rfl (sMo 3 _ rfl) ?_
  refine hret _ _ _ dX10_init_283 ?_
  have f0 : z_267.1 0 = m0New 0 := by rw [yF_267 0 (by decide), yF_245 0 (by decide), yF_223 0 (by decide), yF_201 0 (by decide), yF_179 0 (by decide), yF_157 0 (by decide)]; rfl
  have f4 : z_267.1 4 = m0New 4 := by rw [yF_267 4 (by decide), yF_245 4 (by decide), yF_223 4 (by decide), yF_201 4 (by decide), yF_179 4 (by decide), yF_157 4 (by decide)]; rfl
  have f12 : z_267.1 12 = m0New 12 := by rw [yF_267 12 (by decide), yF_245 12 (by decide), yF_223 12 (by decide), yF_201 12 (by decide), yF_179 12 (by decide), yF_157 12 (by decide)]; rfl
  have b0 : ∀ j, j < 8 → z_267.1 1 (0 + j) = rB2 (0 + j) := fun j hj => (yA_267 (0 + j) (by omega)).trans ((yA_245 (0 + j) (by omega)).trans ((yA_223 (0 + j) (by omega)).trans ((yA_201 (0 + j) (by omega)).trans ((yA_179 (0 + j) (by omega)).trans ((yB_157 j hj).trans (by
      have h8 : j = 0 ∨ j = 1 ∨ j = 2 ∨ j = 3 ∨ j = 4 ∨ j = 5 ∨ j = 6 ∨ j = 7 := by omega
      rcases h8 with rfl | rfl | rfl | rfl | rfl | rfl | rfl | rfl <;> rfl))))))
  have b1 : ∀ j, j < 8 → z_267.1 1 (8 + j) = rB2 (8 + j) := fun j hj => (yA_267 (8 + j) (by omega)).trans ((yA_245 (8 + j) (by omega)).trans ((yA_223 (8 + j) (by omega)).trans ((yA_201 (8 + j) (by omega)).trans ((yB_179 j hj).trans (by
      have h8 : j = 0 ∨ j = 1 ∨ j = 2 ∨ j = 3 ∨ j = 4 ∨ j = 5 ∨ j = 6 ∨ j = 7 := by omega
      rcases h8 with rfl | rfl | rfl | rfl | rfl | rfl | rfl | rfl <;> rfl)))))
  have b2 : ∀ j, j < 8 → z_267.1 1 (16 + j) = rB2 (16 + j) := fun j hj => (yA_267 (16 + j) (by omega)).trans ((yA_245 (16 + j) (by omega)).trans ((yA_223 (16 + j) (by omega)).trans ((yB_201 j hj).trans (by
      have h8 : j = 0 ∨ j = 1 ∨ j = 2 ∨ j = 3 ∨ j = 4 ∨ j = 5 ∨ j = 6 ∨ j = 7 := by omega
      rcases h8 with rfl | rfl | rfl | rfl | rfl | rfl | rfl | rfl <;> rfl))))
  have b3 : ∀ j, j < 8 → z_267.1 1 (24 + j) = rB2 (24 + j) := fun j hj => (yA_267 (24 + j) (by omega)).trans ((yA_245 (24 + j) (by omega)).trans ((yB_223 j hj).trans (by
      have h8 : j = 0 ∨ j = 1 ∨ j = 2 ∨ j = 3 ∨ j = 4 ∨ j = 5 ∨ j = 6 ∨ j = 7 := by omega
      rcases h8 with rfl | rfl | rfl | rfl | rfl | rfl | rfl | rfl <;> rfl)))
  have b4 : ∀ j, j < 8 → z_267.1 1 (32 + j) = rB2 (32 + j) := fun j hj => (yA_267 (32 + j) (by omega)).trans ((yB_245 j hj).trans (by
      have h8 : j = 0 ∨ j = 1 ∨ j = 2 ∨ j = 3 ∨ j = 4 ∨ j = 5 ∨ j = 6 ∨ j = 7 := by omega
      rcases h8 with rfl | rfl | rfl | rfl | rfl | rfl | rfl | rfl <;> rfl))
  have b5 : ∀ j, j < 8 → z_267.1 1 (40 + j) = rB2 (40 + j) := fun j hj => (yB_267 j hj).trans (by
      have h8 : j = 0 ∨ j = 1 ∨ j = 2 ∨ j = 3 ∨ j = 4 ∨ j = 5 ∨ j = 6 ∨ j = 7 := by omega
      rcases h8 with rfl | rfl | rfl | rfl | rfl | rfl | rfl | rfl <;> rfl)
  refine ⟨by rw [mU_1, uM_s], ?_, ?_, ?_, ?_, ⟨?_, ?_, ?_⟩, ?_, fun i hi => ?_, fun i hi => ?_⟩
  · rw [mU_1, uM_n (by decide), mU_1, uM_ne (by decide), f0]; rfl
  · rw [mU_1, uM_n (by decide), mU_1, uM_ne (by decide), f0]; rfl
  · rw [mU_1, uM_n (by decide), mU_1, uM_ne (by decide), f0]; rfl
  · rw [mU_1, uM_n (by decide), mU_1, uM_ne (by decide), f0]; rfl
  · rw [mU_1, uM_ne (by decide), mU_1, uM_ne (by decide), f4]; rfl
  · rw [mU_1, uM_ne (by decide), mU_1, uM_ne (by decide), f4]; rfl
  · rw [mU_1, uM_ne (by decide), mU_1, uM_ne (by decide), f4]; rfl
  · rw [mU_1, uM_ne (by decide), mU_1, uM_s]
  · rw [mU_1, uM_ne (by decide), mU_1, uM_ne (by decide)]
    have hc : i < 8 ∨ (8 ≤ i ∧ i < 16) ∨ (16 ≤ i ∧ i < 24) ∨ (24 ≤ i ∧ i < 32) ∨ (32 ≤ i ∧ i < 40) ∨ 40 ≤ i := by omega
    rcases hc with h | h | h | h | h | h
    · have h9 := b0 (i - 0) (by omega)
      rw [show 0 + (i - 0) = i by omega] at h9; exact h9
    · have h9 := b1 (i - 8) (by omega)
      rw [show 8 + (i - 8) = i by omega] at h9; exact h9
    · have h9 := b2 (i - 16) (by omega)
      rw [show 16 + (i - 16) = i by omega] at h9; exact h9
    · have h9 := b3 (i - 24) (by omega)
      rw [show 24 + (i - 24) = i by omega] at h9; exact h9
    · have h9 := b4 (i - 32) (by omega)
      rw [show 32 + (i - 32) = i by omega] at h9; exact h9
    · have h9 := b5 (i - 40) (by omega)
      rw [show 40 + (i - 40) = i by omega] at h9; exact h9
  · rw [mU_1, uM_ne (by decide), mU_1, uM_ne (by decide), f12]; rfl
set_option maxHeartbeats 40000000 in
set_option maxRecDepth 100000 in
theorem c_X10_init (l : Launch) (g : jG) (h : Nat) : Cv l g yX10_init cX10_init 1 1 29 15 1421 lW [.ref h] [(h, .inr (10, [.int 0, .null, .null, .int 0, .int 0, .null, .int 0, .null, .null, .null, .int 0, .int 0, .int 0, .int 0, .int 0, .int 0, .int 0, .int 0, .int 0, .int 0, .int 0, .int 0, .long 0, .int 0, .int 0, .int 0, .null, .null, .null, .null, .null, .int 0, .int 0, .null, .null, .null, .null]))] (fun z => ∃ (a : Nat → Nat) (x : mS), z = mW g a x ∧ a 0 = h ∧ in0M x) := by
  refine mk_v (by decide +kernel) rfl (fun KK hKl hKg C hin hret => ?_)
  subst hKl; subst hKg
  refine j_lv (lv' := [(0, _)]) rfl ?_
  refine j_aload_n C dX10_init_0 rfl rfl ?_
  refine j_objI C dX10_init_1 jo_RX10_7 (by decide) (Nat.le_of_ble_eq_true rfl) ?_
  refine j_aload_n C dX10_init_4 rfl rfl ?_
  refine j_sipush (v := 960) C dX10_init_5 rfl ?_
  refine j_newI (N := 960) C dX10_init_8 jac_int (by decide) rfl (by decide) (by decide) (by decide) (fun q1 => ?_)
  refine j_st (y := [(h, .inr (10, [.int 0, .null, .null, .int 0, .int 0, .null, .int 0, .null, .null, .null, .int 0, .int 0, .int 0, .int 0, .int 0, .int 0, .int 0, .int 0, .int 0, .int 0, .int 0, .int 0, .long 0, .int 0, .int 0, .int 0, .null, .null, .null, .null, .null, .int 0, .int 0, .null, .null, .null, .null])), (q1, .inl (gI (kG KK), 960, .inl (fun _ => 0)))]) rfl ?_
  refine j_putF (k := 0) (y := [(h, .inr (10, [.int 0, .ref q1, .null, .int 0, .int 0, .null, .int 0, .null, .null, .null, .int 0, .int 0, .int 0, .int 0, .int 0, .int 0, .int 0, .int 0, .int 0, .int 0, .int 0, .int 0, .long 0, .int 0, .int 0, .int 0, .null, .null, .null, .null, .null, .int 0, .int 0, .null, .null, .null, .null])), (q1, .inl (gI (kG KK), 960, .inl (fun _ => 0)))]) C dX10_init_10 jp_RX10_13 (hin rfl) rfl (Nat.le_of_ble_eq_true rfl) rfl rfl ⟨_, rfl, rfl⟩ rfl ?_
  refine j_aload_n C dX10_init_13 rfl rfl ?_
  refine j_bipush (v := 6) C dX10_init_14 rfl ?_
  refine j_newI (N := 6) C dX10_init_16 jac_int (by decide) rfl (by decide) (by decide) (by decide) (fun q2 => ?_)
  refine j_st (y := [(h, .inr (10, [.int 0, .ref q1, .null, .int 0, .int 0, .null, .int 0, .null, .null, .null, .int 0, .int 0, .int 0, .int 0, .int 0, .int 0, .int 0, .int 0, .int 0, .int 0, .int 0, .int 0, .long 0, .int 0, .int 0, .int 0, .null, .null, .null, .null, .null, .int 0, .int 0, .null, .null, .null, .null])), (q1, .inl (gI (kG KK), 960, .inl (fun _ => 0))), (q2, .inl (gI (kG KK), 6, .inl (fun _ => 0)))]) rfl ?_
  refine j_putF (k := 0) (y := [(h, .inr (10, [.int 0, .ref q1, .ref q2, .int 0, .int 0, .null, .int 0, .null, .null, .null, .int 0, .int 0, .int 0, .int 0, .int 0, .int 0, .int 0, .int 0, .int 0, .int 0, .int 0, .int 0, .long 0, .int 0, .int 0, .int 0, .null, .null, .null, .null, .null, .int 0, .int 0, .null, .null, .null, .null])), (q1, .inl (gI (kG KK), 960, .inl (fun _ => 0))), (q2, .inl (gI (kG KK), 6, .inl (fun _ => 0)))]) C dX10_init_18 jp_RX10_17 (hin rfl) rfl (Nat.le_of_ble_eq_true rfl) rfl rfl ⟨_, rfl, rfl⟩ rfl ?_
  refine j_aload_n C dX10_init_21 rfl rfl ?_
  refine j_sipush (v := 160) C dX10_init_22 rfl ?_
  refine j_newI (N := 160) C dX10_init_25 jac_int (by decide) rfl (by decide) (by decide) (by decide) (fun q3 => ?_)
  refine j_st (y := [(h, .inr (10, [.int 0, .ref q1, .ref q2, .int 0, .int 0, .null, .int 0, .null, .null, .null, .int 0, .int 0, .int 0, .int 0, .int 0, .int 0, .int 0, .int 0, .int 0, .int 0, .int 0, .int 0, .long 0, .int 0, .int 0, .int 0, .null, .null, .null, .null, .null, .int 0, .int 0, .null, .null, .null, .null])), (q1, .inl (gI (kG KK), 960, .inl (fun _ => 0))), (q2, .inl (gI (kG KK), 6, .inl (fun _ => 0))), (q3, .inl (gI (kG KK), 160, .inl (fun _ => 0)))]) rfl ?_
  refine j_putF (k := 0) (y := [(h, .inr (10, [.int 0, .ref q1, .ref q2, .int 0, .int 0, .ref q3, .int 0, .null, .null, .null, .int 0, .int 0, .int 0, .int 0, .int 0, .int 0, .int 0, .int 0, .int 0, .int 0, .int 0, .int 0, .long 0, .int 0, .int 0, .int 0, .null, .null, .null, .null, .null, .int 0, .int 0, .null, .null, .null, .null])), (q1, .inl (gI (kG KK), 960, .inl (fun _ => 0))), (q2, .inl (gI (kG KK), 6, .inl (fun _ => 0))), (q3, .inl (gI (kG KK), 160, .inl (fun _ => 0)))]) C dX10_init_27 jp_RX10_20 (hin rfl) rfl (Nat.le_of_ble_eq_true rfl) rfl rfl ⟨_, rfl, rfl⟩ rfl ?_
  refine j_aload_n C dX10_init_30 rfl rfl ?_
  refine j_iconst (v := 3) C dX10_init_31 rfl ?_
  refine j_newI (N := 3) C dX10_init_32 jac_int (by decide) rfl (by decide) (by decide) (by decide) (fun q4 => ?_)
  refine j_st (y := [(h, .inr (10, [.int 0, .ref q1, .ref q2, .int 0, .int 0, .ref q3, .int 0, .null, .null, .null, .int 0, .int 0, .int 0, .int 0, .int 0, .int 0, .int 0, .int 0, .int 0, .int 0, .int 0, .int 0, .long 0, .int 0, .int 0, .int 0, .null, .null, .null, .null, .null, .int 0, .int 0, .null, .null, .null, .null])), (q1, .inl (gI (kG KK), 960, .inl (fun _ => 0))), (q2, .inl (gI (kG KK), 6, .inl (fun _ => 0))), (q3, .inl (gI (kG KK), 160, .inl (fun _ => 0))), (q4, .inl (gI (kG KK), 3, .inl (fun _ => 0)))]) rfl ?_
  refine j_dup C dX10_init_34 rfl ?_
  refine j_iconst (v := 0) C dX10_init_35 rfl ?_
  refine j_iconst (v := 0) C dX10_init_36 rfl ?_
  refine j_iast (k := 4) (y := [(h, .inr (10, [.int 0, .ref q1, .ref q2, .int 0, .int 0, .ref q3, .int 0, .null, .null, .null, .int 0, .int 0, .int 0, .int 0, .int 0, .int 0, .int 0, .int 0, .int 0, .int 0, .int 0, .int 0, .long 0, .int 0, .int 0, .int 0, .null, .null, .null, .null, .null, .int 0, .int 0, .null, .null, .null, .null])), (q1, .inl (gI (kG KK), 960, .inl (fun _ => 0))), (q2, .inl (gI (kG KK), 6, .inl (fun _ => 0))), (q3, .inl (gI (kG KK), 160, .inl (fun _ => 0))), (q4, .inl (gI (kG KK), 3, .inl (upd (fun _ => 0) 0 0)))]) C 0 dX10_init_37 rfl rfl (by decide) (by decide) rfl ?_
  refine j_dup C dX10_init_38 rfl ?_
  refine j_iconst (v := 1) C dX10_init_39 rfl ?_
  refine j_bipush (v := 19) C dX10_init_40 rfl ?_
  refine j_iast (k := 4) (y := [(h, .inr (10, [.int 0, .ref q1, .ref q2, .int 0, .int 0, .ref q3, .int 0, .null, .null, .null, .int 0, .int 0, .int 0, .int 0, .int 0, .int 0, .int 0, .int 0, .int 0, .int 0, .int 0, .int 0, .long 0, .int 0, .int 0, .int 0, .null, .null, .null, .null, .null, .int 0, .int 0, .null, .null, .null, .null])), (q1, .inl (gI (kG KK), 960, .inl (fun _ => 0))), (q2, .inl (gI (kG KK), 6, .inl (fun _ => 0))), (q3, .inl (gI (kG KK), 160, .inl (fun _ => 0))), (q4, .inl (gI (kG KK), 3, .inl (upd (upd (fun _ => 0) 0 0) 1 19)))]) C 1 dX10_init_42 rfl rfl (by decide) (by decide) rfl ?_
  refine j_dup C dX10_init_43 rfl ?_
  refine j_iconst (v := 2) C dX10_init_44 rfl ?_
  refine j_iconst (v := 0) C dX10_init_45 rfl ?_
  refine j_iast (k := 4) (y := [(h, .inr (10, [.int 0, .ref q1, .ref q2, .int 0, .int 0, .ref q3, .int 0, .null, .null, .null, .int 0, .int 0, .int 0, .int 0, .int 0, .int 0, .int 0, .int 0, .int 0, .int 0, .int 0, .int 0, .long 0, .int 0, .int 0, .int 0, .null, .null, .null, .null, .null, .int 0, .int 0, .null, .null, .null, .null])), (q1, .inl (gI (kG KK), 960, .inl (fun _ => 0))), (q2, .inl (gI (kG KK), 6, .inl (fun _ => 0))), (q3, .inl (gI (kG KK), 160, .inl (fun _ => 0))), (q4, .inl (gI (kG KK), 3, .inl (upd (upd (upd (fun _ => 0) 0 0) 1 19) 2 0)))]) C 2 dX10_init_46 rfl rfl (by decide) (by decide) rfl ?_
  refine j_putF (k := 0) (y := [(h, .inr (10, [.int 0, .ref q1, .ref q2, .int 0, .int 0, .ref q3, .int 0, .ref q4, .null, .null, .int 0, .int 0, .int 0, .int 0, .int 0, .int 0, .int 0, .int 0, .int 0, .int 0, .int 0, .int 0, .long 0, .int 0, .int 0, .int 0, .null, .null, .null, .null, .null, .int 0, .int 0, .null, .null, .null, .null])), (q1, .inl (gI (kG KK), 960, .inl (fun _ => 0))), (q2, .inl (gI (kG KK), 6, .inl (fun _ => 0))), (q3, .inl (gI (kG KK), 160, .inl (fun _ => 0))), (q4, .inl (gI (kG KK), 3, .inl (upd (upd (upd (fun _ => 0) 0 0) 1 19) 2 0)))]) C dX10_init_47 jp_RX10_23 (hin rfl) rfl (Nat.le_of_ble_eq_true rfl) rfl rfl ⟨_, rfl, rfl⟩ rfl ?_
  refine j_aload_n C dX10_init_50 rfl rfl ?_
  refine j_bipush (v := 6) C dX10_init_51 rfl ?_
  refine j_newI (N := 6) C dX10_init_53 jac_int (by decide) rfl (by decide) (by decide) (by decide) (fun q5 => ?_)
  refine j_st (y := [(h, .inr (10, [.int 0, .ref q1, .ref q2, .int 0, .int 0, .ref q3, .int 0, .ref q4, .null, .null, .int 0, .int 0, .int 0, .int 0, .int 0, .int 0, .int 0, .int 0, .int 0, .int 0, .int 0, .int 0, .long 0, .int 0, .int 0, .int 0, .null, .null, .null, .null, .null, .int 0, .int 0, .null, .null, .null, .null])), (q1, .inl (gI (kG KK), 960, .inl (fun _ => 0))), (q2, .inl (gI (kG KK), 6, .inl (fun _ => 0))), (q3, .inl (gI (kG KK), 160, .inl (fun _ => 0))), (q4, .inl (gI (kG KK), 3, .inl (upd (upd (upd (fun _ => 0) 0 0) 1 19) 2 0))), (q5, .inl (gI (kG KK), 6, .inl (fun _ => 0)))]) rfl ?_
  refine j_putF (k := 0) (y := [(h, .inr (10, [.int 0, .ref q1, .ref q2, .int 0, .int 0, .ref q3, .int 0, .ref q4, .ref q5, .null, .int 0, .int 0, .int 0, .int 0, .int 0, .int 0, .int 0, .int 0, .int 0, .int 0, .int 0, .int 0, .long 0, .int 0, .int 0, .int 0, .null, .null, .null, .null, .null, .int 0, .int 0, .null, .null, .null, .null])), (q1, .inl (gI (kG KK), 960, .inl (fun _ => 0))), (q2, .inl (gI (kG KK), 6, .inl (fun _ => 0))), (q3, .inl (gI (kG KK), 160, .inl (fun _ => 0))), (q4, .inl (gI (kG KK), 3, .inl (upd (upd (upd (fun _ => 0) 0 0) 1 19) 2 0))), (q5, .inl (gI (kG KK), 6, .inl (fun _ => 0)))]) C dX10_init_55 jp_RX10_26 (hin rfl) rfl (Nat.le_of_ble_eq_true rfl) rfl rfl ⟨_, rfl, rfl⟩ rfl ?_
  refine j_aload_n C dX10_init_58 rfl rfl ?_
  refine j_bipush (v := 24) C dX10_init_59 rfl ?_
  refine j_newI (N := 24) C dX10_init_61 jac_int (by decide) rfl (by decide) (by decide) (by decide) (fun q6 => ?_)
  refine j_st (y := [(h, .inr (10, [.int 0, .ref q1, .ref q2, .int 0, .int 0, .ref q3, .int 0, .ref q4, .ref q5, .null, .int 0, .int 0, .int 0, .int 0, .int 0, .int 0, .int 0, .int 0, .int 0, .int 0, .int 0, .int 0, .long 0, .int 0, .int 0, .int 0, .null, .null, .null, .null, .null, .int 0, .int 0, .null, .null, .null, .null])), (q1, .inl (gI (kG KK), 960, .inl (fun _ => 0))), (q2, .inl (gI (kG KK), 6, .inl (fun _ => 0))), (q3, .inl (gI (kG KK), 160, .inl (fun _ => 0))), (q4, .inl (gI (kG KK), 3, .inl (upd (upd (upd (fun _ => 0) 0 0) 1 19) 2 0))), (q5, .inl (gI (kG KK), 6, .inl (fun _ => 0))), (q6, .inl (gI (kG KK), 24, .inl (fun _ => 0)))]) rfl ?_
  refine j_putF (k := 0) (y := [(h, .inr (10, [.int 0, .ref q1, .ref q2, .int 0, .int 0, .ref q3, .int 0, .ref q4, .ref q5, .ref q6, .int 0, .int 0, .int 0, .int 0, .int 0, .int 0, .int 0, .int 0, .int 0, .int 0, .int 0, .int 0, .long 0, .int 0, .int 0, .int 0, .null, .null, .null, .null, .null, .int 0, .int 0, .null, .null, .null, .null])), (q1, .inl (gI (kG KK), 960, .inl (fun _ => 0))), (q2, .inl (gI (kG KK), 6, .inl (fun _ => 0))), (q3, .inl (gI (kG KK), 160, .inl (fun _ => 0))), (q4, .inl (gI (kG KK), 3, .inl (upd (upd (upd (fun _ => 0) 0 0) 1 19) 2 0))), (q5, .inl (gI (kG KK), 6, .inl (fun _ => 0))), (q6, .inl (gI (kG KK), 24, .inl (fun _ => 0)))]) C dX10_init_63 jp_RX10_29 (hin rfl) rfl (Nat.le_of_ble_eq_true rfl) rfl rfl ⟨_, rfl, rfl⟩ rfl ?_
  refine j_aload_n C dX10_init_66 rfl rfl ?_
  refine j_bipush (v := 30) C dX10_init_67 rfl ?_
  refine j_newI (N := 30) C dX10_init_69 jac_int (by decide) rfl (by decide) (by decide) (by decide) (fun q7 => ?_)
  refine j_st (y := [(h, .inr (10, [.int 0, .ref q1, .ref q2, .int 0, .int 0, .ref q3, .int 0, .ref q4, .ref q5, .ref q6, .int 0, .int 0, .int 0, .int 0, .int 0, .int 0, .int 0, .int 0, .int 0, .int 0, .int 0, .int 0, .long 0, .int 0, .int 0, .int 0, .null, .null, .null, .null, .null, .int 0, .int 0, .null, .null, .null, .null])), (q1, .inl (gI (kG KK), 960, .inl (fun _ => 0))), (q2, .inl (gI (kG KK), 6, .inl (fun _ => 0))), (q3, .inl (gI (kG KK), 160, .inl (fun _ => 0))), (q4, .inl (gI (kG KK), 3, .inl (upd (upd (upd (fun _ => 0) 0 0) 1 19) 2 0))), (q5, .inl (gI (kG KK), 6, .inl (fun _ => 0))), (q6, .inl (gI (kG KK), 24, .inl (fun _ => 0))), (q7, .inl (gI (kG KK), 30, .inl (fun _ => 0)))]) rfl ?_
  refine j_putF (k := 0) (y := [(h, .inr (10, [.int 0, .ref q1, .ref q2, .int 0, .int 0, .ref q3, .int 0, .ref q4, .ref q5, .ref q6, .int 0, .int 0, .int 0, .int 0, .int 0, .int 0, .int 0, .int 0, .int 0, .int 0, .int 0, .int 0, .long 0, .int 0, .int 0, .int 0, .ref q7, .null, .null, .null, .null, .int 0, .int 0, .null, .null, .null, .null])), (q1, .inl (gI (kG KK), 960, .inl (fun _ => 0))), (q2, .inl (gI (kG KK), 6, .inl (fun _ => 0))), (q3, .inl (gI (kG KK), 160, .inl (fun _ => 0))), (q4, .inl (gI (kG KK), 3, .inl (upd (upd (upd (fun _ => 0) 0 0) 1 19) 2 0))), (q5, .inl (gI (kG KK), 6, .inl (fun _ => 0))), (q6, .inl (gI (kG KK), 24, .inl (fun _ => 0))), (q7, .inl (gI (kG KK), 30, .inl (fun _ => 0)))]) C dX10_init_71 jp_RX10_32 (hin rfl) rfl (Nat.le_of_ble_eq_true rfl) rfl rfl ⟨_, rfl, rfl⟩ rfl ?_
  refine j_aload_n C dX10_init_74 rfl rfl ?_
  refine j_bipush (v := 30) C dX10_init_75 rfl ?_
  refine j_newI (N := 30) C dX10_init_77 jac_int (by decide) rfl (by decide) (by decide) (by decide) (fun q8 => ?_)
  refine j_st (y := [(h, .inr (10, [.int 0, .ref q1, .ref q2, .int 0, .int 0, .ref q3, .int 0, .ref q4, .ref q5, .ref q6, .int 0, .int 0, .int 0, .int 0, .int 0, .int 0, .int 0, .int 0, .int 0, .int 0, .int 0, .int 0, .long 0, .int 0, .int 0, .int 0, .ref q7, .null, .null, .null, .null, .int 0, .int 0, .null, .null, .null, .null])), (q1, .inl (gI (kG KK), 960, .inl (fun _ => 0))), (q2, .inl (gI (kG KK), 6, .inl (fun _ => 0))), (q3, .inl (gI (kG KK), 160, .inl (fun _ => 0))), (q4, .inl (gI (kG KK), 3, .inl (upd (upd (upd (fun _ => 0) 0 0) 1 19) 2 0))), (q5, .inl (gI (kG KK), 6, .inl (fun _ => 0))), (q6, .inl (gI (kG KK), 24, .inl (fun _ => 0))), (q7, .inl (gI (kG KK), 30, .inl (fun _ => 0))), (q8, .inl (gI (kG KK), 30, .inl (fun _ => 0)))]) rfl ?_
  refine j_putF (k := 0) (y := [(h, .inr (10, [.int 0, .ref q1, .ref q2, .int 0, .int 0, .ref q3, .int 0, .ref q4, .ref q5, .ref q6, .int 0, .int 0, .int 0, .int 0, .int 0, .int 0, .int 0, .int 0, .int 0, .int 0, .int 0, .int 0, .long 0, .int 0, .int 0, .int 0, .ref q7, .ref q8, .null, .null, .null, .int 0, .int 0, .null, .null, .null, .null])), (q1, .inl (gI (kG KK), 960, .inl (fun _ => 0))), (q2, .inl (gI (kG KK), 6, .inl (fun _ => 0))), (q3, .inl (gI (kG KK), 160, .inl (fun _ => 0))), (q4, .inl (gI (kG KK), 3, .inl (upd (upd (upd (fun _ => 0) 0 0) 1 19) 2 0))), (q5, .inl (gI (kG KK), 6, .inl (fun _ => 0))), (q6, .inl (gI (kG KK), 24, .inl (fun _ => 0))), (q7, .inl (gI (kG KK), 30, .inl (fun _ => 0))), (q8, .inl (gI (kG KK), 30, .inl (fun _ => 0)))]) C dX10_init_79 jp_RX10_35 (hin rfl) rfl (Nat.le_of_ble_eq_true rfl) rfl rfl ⟨_, rfl, rfl⟩ rfl ?_
  refine j_aload_n C dX10_init_82 rfl rfl ?_
  refine j_iconst (v := 3) C dX10_init_83 rfl ?_
  refine j_newI (N := 3) C dX10_init_84 jac_int (by decide) rfl (by decide) (by decide) (by decide) (fun q9 => ?_)
  refine j_st (y := [(h, .inr (10, [.int 0, .ref q1, .ref q2, .int 0, .int 0, .ref q3, .int 0, .ref q4, .ref q5, .ref q6, .int 0, .int 0, .int 0, .int 0, .int 0, .int 0, .int 0, .int 0, .int 0, .int 0, .int 0, .int 0, .long 0, .int 0, .int 0, .int 0, .ref q7, .ref q8, .null, .null, .null, .int 0, .int 0, .null, .null, .null, .null])), (q1, .inl (gI (kG KK), 960, .inl (fun _ => 0))), (q2, .inl (gI (kG KK), 6, .inl (fun _ => 0))), (q3, .inl (gI (kG KK), 160, .inl (fun _ => 0))), (q4, .inl (gI (kG KK), 3, .inl (upd (upd (upd (fun _ => 0) 0 0) 1 19) 2 0))), (q5, .inl (gI (kG KK), 6, .inl (fun _ => 0))), (q6, .inl (gI (kG KK), 24, .inl (fun _ => 0))), (q7, .inl (gI (kG KK), 30, .inl (fun _ => 0))), (q8, .inl (gI (kG KK), 30, .inl (fun _ => 0))), (q9, .inl (gI (kG KK), 3, .inl (fun _ => 0)))]) rfl ?_
  refine j_putF (k := 0) (y := [(h, .inr (10, [.int 0, .ref q1, .ref q2, .int 0, .int 0, .ref q3, .int 0, .ref q4, .ref q5, .ref q6, .int 0, .int 0, .int 0, .int 0, .int 0, .int 0, .int 0, .int 0, .int 0, .int 0, .int 0, .int 0, .long 0, .int 0, .int 0, .int 0, .ref q7, .ref q8, .ref q9, .null, .null, .int 0, .int 0, .null, .null, .null, .null])), (q1, .inl (gI (kG KK), 960, .inl (fun _ => 0))), (q2, .inl (gI (kG KK), 6, .inl (fun _ => 0))), (q3, .inl (gI (kG KK), 160, .inl (fun _ => 0))), (q4, .inl (gI (kG KK), 3, .inl (upd (upd (upd (fun _ => 0) 0 0) 1 19) 2 0))), (q5, .inl (gI (kG KK), 6, .inl (fun _ => 0))), (q6, .inl (gI (kG KK), 24, .inl (fun _ => 0))), (q7, .inl (gI (kG KK), 30, .inl (fun _ => 0))), (q8, .inl (gI (kG KK), 30, .inl (fun _ => 0))), (q9, .inl (gI (kG KK), 3, .inl (fun _ => 0)))]) C dX10_init_86 jp_RX10_38 (hin rfl) rfl (Nat.le_of_ble_eq_true rfl) rfl rfl ⟨_, rfl, rfl⟩ rfl ?_
  refine j_aload_n C dX10_init_89 rfl rfl ?_
  refine j_iconst (v := 3) C dX10_init_90 rfl ?_
  refine j_newI (N := 3) C dX10_init_91 jac_int (by decide) rfl (by decide) (by decide) (by decide) (fun q10 => ?_)
  refine j_st (y := [(h, .inr (10, [.int 0, .ref q1, .ref q2, .int 0, .int 0, .ref q3, .int 0, .ref q4, .ref q5, .ref q6, .int 0, .int 0, .int 0, .int 0, .int 0, .int 0, .int 0, .int 0, .int 0, .int 0, .int 0, .int 0, .long 0, .int 0, .int 0, .int 0, .ref q7, .ref q8, .ref q9, .null, .null, .int 0, .int 0, .null, .null, .null, .null])), (q1, .inl (gI (kG KK), 960, .inl (fun _ => 0))), (q2, .inl (gI (kG KK), 6, .inl (fun _ => 0))), (q3, .inl (gI (kG KK), 160, .inl (fun _ => 0))), (q4, .inl (gI (kG KK), 3, .inl (upd (upd (upd (fun _ => 0) 0 0) 1 19) 2 0))), (q5, .inl (gI (kG KK), 6, .inl (fun _ => 0))), (q6, .inl (gI (kG KK), 24, .inl (fun _ => 0))), (q7, .inl (gI (kG KK), 30, .inl (fun _ => 0))), (q8, .inl (gI (kG KK), 30, .inl (fun _ => 0))), (q9, .inl (gI (kG KK), 3, .inl (fun _ => 0))), (q10, .inl (gI (kG KK), 3, .inl (fun _ => 0)))]) rfl ?_
  refine j_putF (k := 0) (y := [(h, .inr (10, [.int 0, .ref q1, .ref q2, .int 0, .int 0, .ref q3, .int 0, .ref q4, .ref q5, .ref q6, .int 0, .int 0, .int 0, .int 0, .int 0, .int 0, .int 0, .int 0, .int 0, .int 0, .int 0, .int 0, .long 0, .int 0, .int 0, .int 0, .ref q7, .ref q8, .ref q9, .ref q10, .null, .int 0, .int 0, .null, .null, .null, .null])), (q1, .inl (gI (kG KK), 960, .inl (fun _ => 0))), (q2, .inl (gI (kG KK), 6, .inl (fun _ => 0))), (q3, .inl (gI (kG KK), 160, .inl (fun _ => 0))), (q4, .inl (gI (kG KK), 3, .inl (upd (upd (upd (fun _ => 0) 0 0) 1 19) 2 0))), (q5, .inl (gI (kG KK), 6, .inl (fun _ => 0))), (q6, .inl (gI (kG KK), 24, .inl (fun _ => 0))), (q7, .inl (gI (kG KK), 30, .inl (fun _ => 0))), (q8, .inl (gI (kG KK), 30, .inl (fun _ => 0))), (q9, .inl (gI (kG KK), 3, .inl (fun _ => 0))), (q10, .inl (gI (kG KK), 3, .inl (fun _ => 0)))]) C dX10_init_93 jp_RX10_41 (hin rfl) rfl (Nat.le_of_ble_eq_true rfl) rfl rfl ⟨_, rfl, rfl⟩ rfl ?_
  refine j_aload_n C dX10_init_96 rfl rfl ?_
  refine j_bipush (v := 24) C dX10_init_97 rfl ?_
  refine j_newI (N := 24) C dX10_init_99 jac_int (by decide) rfl (by decide) (by decide) (by decide) (fun q11 => ?_)
  refine j_st (y := [(h, .inr (10, [.int 0, .ref q1, .ref q2, .int 0, .int 0, .ref q3, .int 0, .ref q4, .ref q5, .ref q6, .int 0, .int 0, .int 0, .int 0, .int 0, .int 0, .int 0, .int 0, .int 0, .int 0, .int 0, .int 0, .long 0, .int 0, .int 0, .int 0, .ref q7, .ref q8, .ref q9, .ref q10, .null, .int 0, .int 0, .null, .null, .null, .null])), (q1, .inl (gI (kG KK), 960, .inl (fun _ => 0))), (q2, .inl (gI (kG KK), 6, .inl (fun _ => 0))), (q3, .inl (gI (kG KK), 160, .inl (fun _ => 0))), (q4, .inl (gI (kG KK), 3, .inl (upd (upd (upd (fun _ => 0) 0 0) 1 19) 2 0))), (q5, .inl (gI (kG KK), 6, .inl (fun _ => 0))), (q6, .inl (gI (kG KK), 24, .inl (fun _ => 0))), (q7, .inl (gI (kG KK), 30, .inl (fun _ => 0))), (q8, .inl (gI (kG KK), 30, .inl (fun _ => 0))), (q9, .inl (gI (kG KK), 3, .inl (fun _ => 0))), (q10, .inl (gI (kG KK), 3, .inl (fun _ => 0))), (q11, .inl (gI (kG KK), 24, .inl (fun _ => 0)))]) rfl ?_
  refine j_putF (k := 0) (y := [(h, .inr (10, [.int 0, .ref q1, .ref q2, .int 0, .int 0, .ref q3, .int 0, .ref q4, .ref q5, .ref q6, .int 0, .int 0, .int 0, .int 0, .int 0, .int 0, .int 0, .int 0, .int 0, .int 0, .int 0, .int 0, .long 0, .int 0, .int 0, .int 0, .ref q7, .ref q8, .ref q9, .ref q10, .ref q11, .int 0, .int 0, .null, .null, .null, .null])), (q1, .inl (gI (kG KK), 960, .inl (fun _ => 0))), (q2, .inl (gI (kG KK), 6, .inl (fun _ => 0))), (q3, .inl (gI (kG KK), 160, .inl (fun _ => 0))), (q4, .inl (gI (kG KK), 3, .inl (upd (upd (upd (fun _ => 0) 0 0) 1 19) 2 0))), (q5, .inl (gI (kG KK), 6, .inl (fun _ => 0))), (q6, .inl (gI (kG KK), 24, .inl (fun _ => 0))), (q7, .inl (gI (kG KK), 30, .inl (fun _ => 0))), (q8, .inl (gI (kG KK), 30, .inl (fun _ => 0))), (q9, .inl (gI (kG KK), 3, .inl (fun _ => 0))), (q10, .inl (gI (kG KK), 3, .inl (fun _ => 0))), (q11, .inl (gI (kG KK), 24, .inl (fun _ => 0)))]) C dX10_init_101 jp_RX10_44 (hin rfl) rfl (Nat.le_of_ble_eq_true rfl) rfl rfl ⟨_, rfl, rfl⟩ rfl ?_
  refine j_aload_n C dX10_init_104 rfl rfl ?_
  refine j_iconst (v := -1) C dX10_init_105 rfl ?_
  refine j_put (k := 0) (y := [(h, .inr (10, [.int 0, .ref q1, .ref q2, .int 0, .int 0, .ref q3, .int 0, .ref q4, .ref q5, .ref q6, .int 0, .int 0, .int 0, .int 0, .int 0, .int 0, .int 0, .int 0, .int 0, .int 0, .int 0, .int 0, .long 0, .int 0, .int 0, .int 0, .ref q7, .ref q8, .ref q9, .ref q10, .ref q11, .int (-1), .int 0, .null, .null, .null, .null])), (q1, .inl (gI (kG KK), 960, .inl (fun _ => 0))), (q2, .inl (gI (kG KK), 6, .inl (fun _ => 0))), (q3, .inl (gI (kG KK), 160, .inl (fun _ => 0))), (q4, .inl (gI (kG KK), 3, .inl (upd (upd (upd (fun _ => 0) 0 0) 1 19) 2 0))), (q5, .inl (gI (kG KK), 6, .inl (fun _ => 0))), (q6, .inl (gI (kG KK), 24, .inl (fun _ => 0))), (q7, .inl (gI (kG KK), 30, .inl (fun _ => 0))), (q8, .inl (gI (kG KK), 30, .inl (fun _ => 0))), (q9, .inl (gI (kG KK), 3, .inl (fun _ => 0))), (q10, .inl (gI (kG KK), 3, .inl (fun _ => 0))), (q11, .inl (gI (kG KK), 24, .inl (fun _ => 0)))]) C dX10_init_106 jp_RX10_47 rfl (Nat.le_of_ble_eq_true rfl) rfl rfl rfl ?_
  refine j_aload_n C dX10_init_109 rfl rfl ?_
  refine j_iconst (v := 4) C dX10_init_110 rfl ?_
  refine j_newZ (N := 4) C dX10_init_111 jac_boolean (by decide) rfl (by decide) (by decide) (by decide) (fun q12 => ?_)
  refine j_st (y := [(h, .inr (10, [.int 0, .ref q1, .ref q2, .int 0, .int 0, .ref q3, .int 0, .ref q4, .ref q5, .ref q6, .int 0, .int 0, .int 0, .int 0, .int 0, .int 0, .int 0, .int 0, .int 0, .int 0, .int 0, .int 0, .long 0, .int 0, .int 0, .int 0, .ref q7, .ref q8, .ref q9, .ref q10, .ref q11, .int (-1), .int 0, .null, .null, .null, .null])), (q1, .inl (gI (kG KK), 960, .inl (fun _ => 0))), (q2, .inl (gI (kG KK), 6, .inl (fun _ => 0))), (q3, .inl (gI (kG KK), 160, .inl (fun _ => 0))), (q4, .inl (gI (kG KK), 3, .inl (upd (upd (upd (fun _ => 0) 0 0) 1 19) 2 0))), (q5, .inl (gI (kG KK), 6, .inl (fun _ => 0))), (q6, .inl (gI (kG KK), 24, .inl (fun _ => 0))), (q7, .inl (gI (kG KK), 30, .inl (fun _ => 0))), (q8, .inl (gI (kG KK), 30, .inl (fun _ => 0))), (q9, .inl (gI (kG KK), 3, .inl (fun _ => 0))), (q10, .inl (gI (kG KK), 3, .inl (fun _ => 0))), (q11, .inl (gI (kG KK), 24, .inl (fun _ => 0))), (q12, .inl (gZ (kG KK), 4, .inl (fun _ => 0)))]) rfl ?_
  refine j_putF (k := 0) (y := [(h, .inr (10, [.int 0, .ref q1, .ref q2, .int 0, .int 0, .ref q3, .int 0, .ref q4, .ref q5, .ref q6, .int 0, .int 0, .int 0, .int 0, .int 0, .int 0, .int 0, .int 0, .int 0, .int 0, .int 0, .int 0, .long 0, .int 0, .int 0, .int 0, .ref q7, .ref q8, .ref q9, .ref q10, .ref q11, .int (-1), .int 0, .ref q12, .null, .null, .null])), (q1, .inl (gI (kG KK), 960, .inl (fun _ => 0))), (q2, .inl (gI (kG KK), 6, .inl (fun _ => 0))), (q3, .inl (gI (kG KK), 160, .inl (fun _ => 0))), (q4, .inl (gI (kG KK), 3, .inl (upd (upd (upd (fun _ => 0) 0 0) 1 19) 2 0))), (q5, .inl (gI (kG KK), 6, .inl (fun _ => 0))), (q6, .inl (gI (kG KK), 24, .inl (fun _ => 0))), (q7, .inl (gI (kG KK), 30, .inl (fun _ => 0))), (q8, .inl (gI (kG KK), 30, .inl (fun _ => 0))), (q9, .inl (gI (kG KK), 3, .inl (fun _ => 0))), (q10, .inl (gI (kG KK), 3, .inl (fun _ => 0))), (q11, .inl (gI (kG KK), 24, .inl (fun _ => 0))), (q12, .inl (gZ (kG KK), 4, .inl (fun _ => 0)))]) C dX10_init_113 jp_RX10_50 (hin rfl) rfl (Nat.le_of_ble_eq_true rfl) rfl rfl ⟨_, rfl, rfl⟩ rfl ?_
  refine j_aload_n C dX10_init_116 rfl rfl ?_
  refine j_iconst (v := 4) C dX10_init_117 rfl ?_
  refine j_newI (N := 4) C dX10_init_118 jac_int (by decide) rfl (by decide) (by decide) (by decide) (fun q13 => ?_)
  refine j_st (y := [(h, .inr (10, [.int 0, .ref q1, .ref q2, .int 0, .int 0, .ref q3, .int 0, .ref q4, .ref q5, .ref q6, .int 0, .int 0, .int 0, .int 0, .int 0, .int 0, .int 0, .int 0, .int 0, .int 0, .int 0, .int 0, .long 0, .int 0, .int 0, .int 0, .ref q7, .ref q8, .ref q9, .ref q10, .ref q11, .int (-1), .int 0, .ref q12, .null, .null, .null])), (q1, .inl (gI (kG KK), 960, .inl (fun _ => 0))), (q2, .inl (gI (kG KK), 6, .inl (fun _ => 0))), (q3, .inl (gI (kG KK), 160, .inl (fun _ => 0))), (q4, .inl (gI (kG KK), 3, .inl (upd (upd (upd (fun _ => 0) 0 0) 1 19) 2 0))), (q5, .inl (gI (kG KK), 6, .inl (fun _ => 0))), (q6, .inl (gI (kG KK), 24, .inl (fun _ => 0))), (q7, .inl (gI (kG KK), 30, .inl (fun _ => 0))), (q8, .inl (gI (kG KK), 30, .inl (fun _ => 0))), (q9, .inl (gI (kG KK), 3, .inl (fun _ => 0))), (q10, .inl (gI (kG KK), 3, .inl (fun _ => 0))), (q11, .inl (gI (kG KK), 24, .inl (fun _ => 0))), (q12, .inl (gZ (kG KK), 4, .inl (fun _ => 0))), (q13, .inl (gI (kG KK), 4, .inl (fun _ => 0)))]) rfl ?_
  refine j_putF (k := 0) (y := [(h, .inr (10, [.int 0, .ref q1, .ref q2, .int 0, .int 0, .ref q3, .int 0, .ref q4, .ref q5, .ref q6, .int 0, .int 0, .int 0, .int 0, .int 0, .int 0, .int 0, .int 0, .int 0, .int 0, .int 0, .int 0, .long 0, .int 0, .int 0, .int 0, .ref q7, .ref q8, .ref q9, .ref q10, .ref q11, .int (-1), .int 0, .ref q12, .ref q13, .null, .null])), (q1, .inl (gI (kG KK), 960, .inl (fun _ => 0))), (q2, .inl (gI (kG KK), 6, .inl (fun _ => 0))), (q3, .inl (gI (kG KK), 160, .inl (fun _ => 0))), (q4, .inl (gI (kG KK), 3, .inl (upd (upd (upd (fun _ => 0) 0 0) 1 19) 2 0))), (q5, .inl (gI (kG KK), 6, .inl (fun _ => 0))), (q6, .inl (gI (kG KK), 24, .inl (fun _ => 0))), (q7, .inl (gI (kG KK), 30, .inl (fun _ => 0))), (q8, .inl (gI (kG KK), 30, .inl (fun _ => 0))), (q9, .inl (gI (kG KK), 3, .inl (fun _ => 0))), (q10, .inl (gI (kG KK), 3, .inl (fun _ => 0))), (q11, .inl (gI (kG KK), 24, .inl (fun _ => 0))), (q12, .inl (gZ (kG KK), 4, .inl (fun _ => 0))), (q13, .inl (gI (kG KK), 4, .inl (fun _ => 0)))]) C dX10_init_120 jp_RX10_54 (hin rfl) rfl (Nat.le_of_ble_eq_true rfl) rfl rfl ⟨_, rfl, rfl⟩ rfl ?_
  refine j_aload_n C dX10_init_123 rfl rfl ?_
  refine j_iconst (v := 4) C dX10_init_124 rfl ?_
  refine j_newI (N := 4) C dX10_init_125 jac_int (by decide) rfl (by decide) (by decide) (by decide) (fun q14 => ?_)
  refine j_st (y := [(h, .inr (10, [.int 0, .ref q1, .ref q2, .int 0, .int 0, .ref q3, .int 0, .ref q4, .ref q5, .ref q6, .int 0, .int 0, .int 0, .int 0, .int 0, .int 0, .int 0, .int 0, .int 0, .int 0, .int 0, .int 0, .long 0, .int 0, .int 0, .int 0, .ref q7, .ref q8, .ref q9, .ref q10, .ref q11, .int (-1), .int 0, .ref q12, .ref q13, .null, .null])), (q1, .inl (gI (kG KK), 960, .inl (fun _ => 0))), (q2, .inl (gI (kG KK), 6, .inl (fun _ => 0))), (q3, .inl (gI (kG KK), 160, .inl (fun _ => 0))), (q4, .inl (gI (kG KK), 3, .inl (upd (upd (upd (fun _ => 0) 0 0) 1 19) 2 0))), (q5, .inl (gI (kG KK), 6, .inl (fun _ => 0))), (q6, .inl (gI (kG KK), 24, .inl (fun _ => 0))), (q7, .inl (gI (kG KK), 30, .inl (fun _ => 0))), (q8, .inl (gI (kG KK), 30, .inl (fun _ => 0))), (q9, .inl (gI (kG KK), 3, .inl (fun _ => 0))), (q10, .inl (gI (kG KK), 3, .inl (fun _ => 0))), (q11, .inl (gI (kG KK), 24, .inl (fun _ => 0))), (q12, .inl (gZ (kG KK), 4, .inl (fun _ => 0))), (q13, .inl (gI (kG KK), 4, .inl (fun _ => 0))), (q14, .inl (gI (kG KK), 4, .inl (fun _ => 0)))]) rfl ?_
  refine j_putF (k := 0) (y := [(h, .inr (10, [.int 0, .ref q1, .ref q2, .int 0, .int 0, .ref q3, .int 0, .ref q4, .ref q5, .ref q6, .int 0, .int 0, .int 0, .int 0, .int 0, .int 0, .int 0, .int 0, .int 0, .int 0, .int 0, .int 0, .long 0, .int 0, .int 0, .int 0, .ref q7, .ref q8, .ref q9, .ref q10, .ref q11, .int (-1), .int 0, .ref q12, .ref q13, .ref q14, .null])), (q1, .inl (gI (kG KK), 960, .inl (fun _ => 0))), (q2, .inl (gI (kG KK), 6, .inl (fun _ => 0))), (q3, .inl (gI (kG KK), 160, .inl (fun _ => 0))), (q4, .inl (gI (kG KK), 3, .inl (upd (upd (upd (fun _ => 0) 0 0) 1 19) 2 0))), (q5, .inl (gI (kG KK), 6, .inl (fun _ => 0))), (q6, .inl (gI (kG KK), 24, .inl (fun _ => 0))), (q7, .inl (gI (kG KK), 30, .inl (fun _ => 0))), (q8, .inl (gI (kG KK), 30, .inl (fun _ => 0))), (q9, .inl (gI (kG KK), 3, .inl (fun _ => 0))), (q10, .inl (gI (kG KK), 3, .inl (fun _ => 0))), (q11, .inl (gI (kG KK), 24, .inl (fun _ => 0))), (q12, .inl (gZ (kG KK), 4, .inl (fun _ => 0))), (q13, .inl (gI (kG KK), 4, .inl (fun _ => 0))), (q14, .inl (gI (kG KK), 4, .inl (fun _ => 0)))]) C dX10_init_127 jp_RX10_57 (hin rfl) rfl (Nat.le_of_ble_eq_true rfl) rfl rfl ⟨_, rfl, rfl⟩ rfl ?_
  refine j_aload_n C dX10_init_130 rfl rfl ?_
  refine j_sipush (v := 160) C dX10_init_131 rfl ?_
  refine j_newI (N := 160) C dX10_init_134 jac_int (by decide) rfl (by decide) (by decide) (by decide) (fun q15 => ?_)
  refine j_st (y := [(h, .inr (10, [.int 0, .ref q1, .ref q2, .int 0, .int 0, .ref q3, .int 0, .ref q4, .ref q5, .ref q6, .int 0, .int 0, .int 0, .int 0, .int 0, .int 0, .int 0, .int 0, .int 0, .int 0, .int 0, .int 0, .long 0, .int 0, .int 0, .int 0, .ref q7, .ref q8, .ref q9, .ref q10, .ref q11, .int (-1), .int 0, .ref q12, .ref q13, .ref q14, .null])), (q1, .inl (gI (kG KK), 960, .inl (fun _ => 0))), (q2, .inl (gI (kG KK), 6, .inl (fun _ => 0))), (q3, .inl (gI (kG KK), 160, .inl (fun _ => 0))), (q4, .inl (gI (kG KK), 3, .inl (upd (upd (upd (fun _ => 0) 0 0) 1 19) 2 0))), (q5, .inl (gI (kG KK), 6, .inl (fun _ => 0))), (q6, .inl (gI (kG KK), 24, .inl (fun _ => 0))), (q7, .inl (gI (kG KK), 30, .inl (fun _ => 0))), (q8, .inl (gI (kG KK), 30, .inl (fun _ => 0))), (q9, .inl (gI (kG KK), 3, .inl (fun _ => 0))), (q10, .inl (gI (kG KK), 3, .inl (fun _ => 0))), (q11, .inl (gI (kG KK), 24, .inl (fun _ => 0))), (q12, .inl (gZ (kG KK), 4, .inl (fun _ => 0))), (q13, .inl (gI (kG KK), 4, .inl (fun _ => 0))), (q14, .inl (gI (kG KK), 4, .inl (fun _ => 0))), (q15, .inl (gI (kG KK), 160, .inl (fun _ => 0)))]) rfl ?_
  refine j_putF (k := 0) (y := [(h, .inr (10, [.int 0, .ref q1, .ref q2, .int 0, .int 0, .ref q3, .int 0, .ref q4, .ref q5, .ref q6, .int 0, .int 0, .int 0, .int 0, .int 0, .int 0, .int 0, .int 0, .int 0, .int 0, .int 0, .int 0, .long 0, .int 0, .int 0, .int 0, .ref q7, .ref q8, .ref q9, .ref q10, .ref q11, .int (-1), .int 0, .ref q12, .ref q13, .ref q14, .ref q15])), (q1, .inl (gI (kG KK), 960, .inl (fun _ => 0))), (q2, .inl (gI (kG KK), 6, .inl (fun _ => 0))), (q3, .inl (gI (kG KK), 160, .inl (fun _ => 0))), (q4, .inl (gI (kG KK), 3, .inl (upd (upd (upd (fun _ => 0) 0 0) 1 19) 2 0))), (q5, .inl (gI (kG KK), 6, .inl (fun _ => 0))), (q6, .inl (gI (kG KK), 24, .inl (fun _ => 0))), (q7, .inl (gI (kG KK), 30, .inl (fun _ => 0))), (q8, .inl (gI (kG KK), 30, .inl (fun _ => 0))), (q9, .inl (gI (kG KK), 3, .inl (fun _ => 0))), (q10, .inl (gI (kG KK), 3, .inl (fun _ => 0))), (q11, .inl (gI (kG KK), 24, .inl (fun _ => 0))), (q12, .inl (gZ (kG KK), 4, .inl (fun _ => 0))), (q13, .inl (gI (kG KK), 4, .inl (fun _ => 0))), (q14, .inl (gI (kG KK), 4, .inl (fun _ => 0))), (q15, .inl (gI (kG KK), 160, .inl (fun _ => 0)))]) C dX10_init_136 jp_RX10_60 (hin rfl) rfl (Nat.le_of_ble_eq_true rfl) rfl rfl ⟨_, rfl, rfl⟩ rfl ?_
  refine j_widen (ca' := 15) (sl' := 1421) (by decide) (by decide) ?_
  refine j_conv (wd := lW) (wd' := mW (kG KK) (adS [h, q1, q2, q3, q4, q5, q6, q7, q8, q9, q10, q11, q12, q13, q14, q15])) xNew (fun H hP => hP) (fun hD => hD) ?_
  exact k_X10_init C (adS [h, q1, q2, q3, q4, q5, q6, q7, q8, q9, q10, q11, q12, q13, q14, q15]) (fun pc lv z hd hz => j_conv (wd := mW (kG KK) (adS [h, q1, q2, q3, q4, q5, q6, q7, q8, q9, q10, q11, q12, q13, q14, q15])) (wd' := lW) (mW (kG KK) (adS [h, q1, q2, q3, q4, q5, q6, q7, q8, q9, q10, q11, q12, q13, q14, q15]) z) (fun _ h => h) (fun h => h) (hret pc lv _ hd ⟨_, z, rfl, rfl, hz⟩))
