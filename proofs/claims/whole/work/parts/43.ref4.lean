theorem i32_subW {x y : Int32} (h : -2147483648 ≤ x.toInt - y.toInt) (h2 : x.toInt - y.toInt ≤ 2147483647) : (x - y).toInt = x.toInt - y.toInt := by
  rw [Int32.toInt_sub, Int.bmod_eq_of_le (by omega) (by omega)]
theorem ix3 {a b c : Nat} : (40 : Int32) * nI a + nI b + nI c = nI (40 * a + b + c) := by
  rw [show (40 : Int32) * nI a = nI (40 * a) from pk_mul 40 a, nI_add, nI_add]
/-- m numbers of sheet s from p on stand in sheet o from q on -/
def cpQ (x z : mS) (s o p q m : Nat) : Prop := z.2 = x.2 ∧ (∀ c, c ≠ 15 → z.1 c = x.1 c) ∧ ∀ j, z.1 15 j = if 40 * o + q ≤ j ∧ j < 40 * o + q + m then x.1 15 (40 * s + p + (j - (40 * o + q))) else x.1 15 j
theorem cl_ge {p : Int32} {c : Int32} (h : 0 ≤ p) : p.toInt = p.toNatClampNeg := (cl_toInt h).symm
/-- gloves by a sheet: what it answers, the state then, how many there are -/
def rnY (it : Nat → Int32) (sz : Int32) : Nat → Int32 → mS → Nat → Int32 → Int32 × mS × Nat
  | 0, _, x, n, c => (c, x, n)
  | k + 1, p, x, n, c => if 0 ≤ p ∧ 3 ≤ sz ∧ p ≤ sz - 3 then (if glOk (it p.toNatClampNeg) (it (p.toNatClampNeg + 1)) (it (p.toNatClampNeg + 2)) ∧ n < 6 then rnY it sz k (p + 3) (hgY x n (it p.toNatClampNeg) (it (p.toNatClampNeg + 1)) (it (p.toNatClampNeg + 2))) (n + 1) (c + 1) else rnY it sz k (p + 3) x n c) else (-12, x, n)
theorem gl_neg {G : Prop} [Decidable G] {n : Nat} {r : Int32} {x z A : mS} (hn : n ≤ 6) (h : if G then (if n < 6 then r = nI n ∧ z = A else r = -4 ∧ z = x) else r = -2 ∧ z = x) (hr : r < 0) : ¬ (G ∧ n < 6) ∧ z = x := by
  split at h
  · split at h
    · rename_i h6
      exact absurd hr (by rw [h.1]; exact fun h7 => by have := nI_pos (n := n) (by omega); simp only [Int32.lt_iff_toInt_lt, Int32.le_iff_toInt_le, Int32.reduceToInt, nI_toInt (show n < 2147483648 by omega)] at h7; omega)
    · rename_i h6; exact ⟨fun h7 => h6 h7.2, h.2⟩
  · rename_i h6; exact ⟨fun h7 => h6 h7.1, h.2⟩
theorem gl_pos {G : Prop} [Decidable G] {n : Nat} {r : Int32} {x z A : mS} (h : if G then (if n < 6 then r = nI n ∧ z = A else r = -4 ∧ z = x) else r = -2 ∧ z = x) (hr : ¬ r < 0) : (G ∧ n < 6) ∧ z = A := by
  split at h
  · split at h
    · rename_i h5 h6; exact ⟨⟨h5, h6⟩, h.2⟩
    · exact absurd (by rw [h.1]; decide) hr
  · exact absurd (by rw [h.1]; decide) hr
theorem hgY_f {x : mS} {n : Nat} {k m p : Int32} {c : Nat} (h0 : c ≠ 0) (h5 : c ≠ 5) (h6 : c ≠ 6) : (hgY x n k m p).1 c = x.1 c := by
  unfold hgY
  rw [mU_1, uM_ne h0, mU_1, uM_ne h6, mU_1, uM_ne h6, mU_1, uM_ne h6, mU_1, uM_ne h6, mU_1, uM_ne h5]
theorem hgY_n {x : mS} {n : Nat} {k m p : Int32} : (hgY x n k m p).1 0 10 = nI (n + 1) := by unfold hgY; rw [mU_1, uM_s]

set_option maxHeartbeats 4000000 in
set_option maxRecDepth 100000 in
theorem c_X10_copy (l : Launch) (g : jG) (a : Nat → Nat) (x : mS) (s : Int32) (p : Int32) (o : Int32) (q : Int32) (m : Int32) (h40 : ∀ i, i < 4 → ¬ x.1 12 i = 0 → ∃ sz, sz ≤ 40 ∧ x.1 14 i = nI sz) : Ci l g yX10_copy cX10_copy 9 .int 2 45 0 0 (mW g a) [.ref (a 0), .int s, .int p, .int o, .int q, .int m] x (fun r z => if (0 ≤ s ∧ s < 4) ∧ (0 ≤ o ∧ o < 4) then (if x.1 12 s.toNatClampNeg = 0 ∨ x.1 12 o.toNatClampNeg = 0 then r = -11 ∧ z = x else if ¬ x.1 13 s.toNatClampNeg = x.1 13 o.toNatClampNeg then r = -13 ∧ z = x else if (0 ≤ p ∧ 0 ≤ m ∧ m ≤ x.1 14 s.toNatClampNeg ∧ p ≤ x.1 14 s.toNatClampNeg - m) ∧ (0 ≤ q ∧ m ≤ x.1 14 o.toNatClampNeg ∧ q ≤ x.1 14 o.toNatClampNeg - m) then r = m ∧ cpQ x z s.toNatClampNeg o.toNatClampNeg p.toNatClampNeg q.toNatClampNeg m.toNatClampNeg else r = -12 ∧ z = x) else r = -2 ∧ z = x) := by
  refine mk_i (by decide +kernel) rfl (fun KK hKl hKg C hin hret => ?_)
  subst hKl; subst hKg
  refine j_lv (lv' := [(0, _), (1, _), (2, _), (3, _), (4, _), (5, _)]) rfl ?_
  refine j_iload_n C dX10_copy_0 rfl rfl ?_
  refine j_callis C (c_X10_isSheet _ _ _ _ _ ) dX10_copy_1 jm_RX10_365 ⟨by decide, by decide, by decide, by decide⟩ rfl (Nat.le_of_ble_eq_true rfl) (fun r z hz => ?_)
  obtain ⟨hb, hz⟩ := hz; have hz := hz.symm; subst hz
  rcases hb with ⟨rfl, b_1⟩ | ⟨rfl, b_1⟩
  · skip
    obtain ⟨i_1, hi_1, rfl⟩ := in_of (B := 4) b_1 rfl
    refine j_if_eq (tgt := 14) C dX10_copy_4 (by decide) (fun c => absurd c (by decide)) (fun _ => ?_)
    refine j_iload_n C dX10_copy_7 rfl rfl ?_
    refine j_callis C (c_X10_isSheet _ _ _ _ _ ) dX10_copy_8 jm_RX10_365 ⟨by decide, by decide, by decide, by decide⟩ rfl (Nat.le_of_ble_eq_true rfl) (fun r z hz => ?_)
    obtain ⟨hb, hz⟩ := hz; have hz := hz.symm; subst hz
    rcases hb with ⟨rfl, b_8⟩ | ⟨rfl, b_8⟩
    · skip
      obtain ⟨i_8, hi_8, rfl⟩ := in_of (B := 4) b_8 rfl
      refine j_if_ne (tgt := 17) C dX10_copy_11 (by decide) (fun _ => ?_) (fun c => absurd c (by decide))
      refine j_aload_n C dX10_copy_17 rfl rfl ?_
      refine j_get C dX10_copy_18 jf_RX10_50 (wO mO) rfl ?_
      refine j_iload_n C dX10_copy_21 rfl rfl ?_
      refine j_zald C (i_1) dX10_copy_22 (wA mA12) (rfl) (hi_1) (by decide) ?_
      refine j_if_eq (tgt := 35) C dX10_copy_23 (by decide) (fun c_23 => ?_) (fun c_23 => ?_)
      · skip
        refine j_bipush (v := -11) C dX10_copy_35 rfl ?_
        refine hret _ _ _ _ dX10_copy_37 rfl ?_
        rw [if_pos ⟨b_1, b_8⟩, nI_clamp (show i_1 < 2147483648 by omega), nI_clamp (show i_8 < 2147483648 by omega), if_pos (Or.inl c_23)]; exact ⟨rfl, rfl⟩
      · skip
        refine j_aload_n C dX10_copy_26 rfl rfl ?_
        refine j_get C dX10_copy_27 jf_RX10_50 (wO mO) rfl ?_
        refine j_iload_n C dX10_copy_30 rfl rfl ?_
        refine j_zald C (i_8) dX10_copy_31 (wA mA12) (rfl) (hi_8) (by decide) ?_
        refine j_if_ne (tgt := 38) C dX10_copy_32 (by decide) (fun c_32 => ?_) (fun c_32 => ?_)
        · skip
          refine j_aload_n C dX10_copy_38 rfl rfl ?_
          refine j_get C dX10_copy_39 jf_RX10_54 (wO mO) rfl ?_
          refine j_iload_n C dX10_copy_42 rfl rfl ?_
          refine j_iald C (i_1) dX10_copy_43 (wA mA13) (rfl) (hi_1) (by decide) ?_
          refine j_aload_n C dX10_copy_44 rfl rfl ?_
          refine j_get C dX10_copy_45 jf_RX10_54 (wO mO) rfl ?_
          refine j_iload_n C dX10_copy_48 rfl rfl ?_
          refine j_iald C (i_8) dX10_copy_49 (wA mA13) (rfl) (hi_8) (by decide) ?_
          refine j_icmp_eq (tgt := 56) C dX10_copy_50 (by decide) (fun c_50 => ?_) (fun c_50 => ?_)
          · skip
            obtain ⟨sz, hsz, esz⟩ := h40 i_1 hi_1 c_23
            have e_sz : (nI sz).toInt = sz := nI_toInt (by omega)
            have e1_sz : (nI sz - 1).toInt = (sz : Int) - 1 := by rw [i32_sub] <;> rw [e_sz] <;> simp <;> omega
            obtain ⟨so, hso, eso⟩ := h40 i_8 hi_8 c_32
            have e_so : (nI so).toInt = so := nI_toInt (by omega)
            have e1_so : (nI so - 1).toInt = (so : Int) - 1 := by rw [i32_sub] <;> rw [e_so] <;> simp <;> omega
            have hsm : ∀ y : Int32, 0 ≤ y → (nI sz - y).toInt = (sz : Int) - y.toInt := fun y hy => by
              have hy2 := Int32.toInt_lt y
              simp only [Int32.lt_iff_toInt_lt, Int32.le_iff_toInt_le, ← Int32.toInt_inj, Int32.reduceToInt] at hy
              rw [i32_subW] <;> rw [e_sz] <;> omega
            have hom : ∀ y : Int32, 0 ≤ y → (nI so - y).toInt = (so : Int) - y.toInt := fun y hy => by
              have hy2 := Int32.toInt_lt y
              simp only [Int32.lt_iff_toInt_lt, Int32.le_iff_toInt_le, ← Int32.toInt_inj, Int32.reduceToInt] at hy
              rw [i32_subW] <;> rw [e_so] <;> omega
            refine j_iload C dX10_copy_56 rfl ?_
            refine j_if_lt (tgt := 97) C dX10_copy_58 (by decide) (fun c_58 => ?_) (fun c_58 => ?_)
            · skip
              have hno : ¬ ((0 ≤ p ∧ 0 ≤ m ∧ m ≤ x.1 14 i_1 ∧ p ≤ x.1 14 i_1 - m) ∧ (0 ≤ q ∧ m ≤ x.1 14 i_8 ∧ q ≤ x.1 14 i_8 - m)) := fun h => by have := h.1.2.1; simp only [Int32.lt_iff_toInt_lt, Int32.le_iff_toInt_le, ← Int32.toInt_inj, Int32.reduceToInt] at this c_58; omega
              refine j_bipush (v := -12) C dX10_copy_97 rfl ?_
              refine hret _ _ _ _ dX10_copy_99 rfl ?_
              rw [if_pos ⟨b_1, b_8⟩, nI_clamp (show i_1 < 2147483648 by omega), nI_clamp (show i_8 < 2147483648 by omega), if_neg (fun h => h.elim c_23 c_32), if_neg (fun h => h c_50), if_neg hno]; exact ⟨rfl, rfl⟩
            · skip
              have hm0 : 0 ≤ m := by simp only [Int32.lt_iff_toInt_lt, Int32.le_iff_toInt_le, ← Int32.toInt_inj, Int32.reduceToInt] at c_58 ⊢; omega
              refine j_iload_n C dX10_copy_61 rfl rfl ?_
              refine j_if_lt (tgt := 97) C dX10_copy_62 (by decide) (fun c_62 => ?_) (fun c_62 => ?_)
              · skip
                have hno : ¬ ((0 ≤ p ∧ 0 ≤ m ∧ m ≤ x.1 14 i_1 ∧ p ≤ x.1 14 i_1 - m) ∧ (0 ≤ q ∧ m ≤ x.1 14 i_8 ∧ q ≤ x.1 14 i_8 - m)) := fun h => by have := h.1.1; simp only [Int32.lt_iff_toInt_lt, Int32.le_iff_toInt_le, ← Int32.toInt_inj, Int32.reduceToInt] at this c_62; omega
                refine j_bipush (v := -12) C dX10_copy_97 rfl ?_
                refine hret _ _ _ _ dX10_copy_99 rfl ?_
                rw [if_pos ⟨b_1, b_8⟩, nI_clamp (show i_1 < 2147483648 by omega), nI_clamp (show i_8 < 2147483648 by omega), if_neg (fun h => h.elim c_23 c_32), if_neg (fun h => h c_50), if_neg hno]; exact ⟨rfl, rfl⟩
              · skip
                refine j_iload C dX10_copy_65 rfl ?_
                refine j_if_lt (tgt := 97) C dX10_copy_67 (by decide) (fun c_67 => ?_) (fun c_67 => ?_)
                · skip
                  have hno : ¬ ((0 ≤ p ∧ 0 ≤ m ∧ m ≤ x.1 14 i_1 ∧ p ≤ x.1 14 i_1 - m) ∧ (0 ≤ q ∧ m ≤ x.1 14 i_8 ∧ q ≤ x.1 14 i_8 - m)) := fun h => by have := h.2.1; simp only [Int32.lt_iff_toInt_lt, Int32.le_iff_toInt_le, ← Int32.toInt_inj, Int32.reduceToInt] at this c_67; omega
                  refine j_bipush (v := -12) C dX10_copy_97 rfl ?_
                  refine hret _ _ _ _ dX10_copy_99 rfl ?_
                  rw [if_pos ⟨b_1, b_8⟩, nI_clamp (show i_1 < 2147483648 by omega), nI_clamp (show i_8 < 2147483648 by omega), if_neg (fun h => h.elim c_23 c_32), if_neg (fun h => h c_50), if_neg hno]; exact ⟨rfl, rfl⟩
                · skip
                  refine j_iload_n C dX10_copy_70 rfl rfl ?_
                  refine j_aload_n C dX10_copy_71 rfl rfl ?_
                  refine j_get C dX10_copy_72 jf_RX10_57 (wO mO) rfl ?_
                  refine j_iload_n C dX10_copy_75 rfl rfl ?_
                  refine j_iald C (i_1) dX10_copy_76 (wA mA14) (rfl) (hi_1) (by decide) ?_
                  refine j_iload C dX10_copy_77 rfl ?_
                  refine j_isub C dX10_copy_79 ?_
                  refine j_icmp_gt (tgt := 97) C dX10_copy_80 (by decide) (fun c_80 => ?_) (fun c_80 => ?_)
                  · skip
                    have hno : ¬ ((0 ≤ p ∧ 0 ≤ m ∧ m ≤ x.1 14 i_1 ∧ p ≤ x.1 14 i_1 - m) ∧ (0 ≤ q ∧ m ≤ x.1 14 i_8 ∧ q ≤ x.1 14 i_8 - m)) := fun h => by have := h.1.2.2.2; simp only [Int32.lt_iff_toInt_lt, Int32.le_iff_toInt_le, ← Int32.toInt_inj, Int32.reduceToInt] at this c_80; omega
                    refine j_bipush (v := -12) C dX10_copy_97 rfl ?_
                    refine hret _ _ _ _ dX10_copy_99 rfl ?_
                    rw [if_pos ⟨b_1, b_8⟩, nI_clamp (show i_1 < 2147483648 by omega), nI_clamp (show i_8 < 2147483648 by omega), if_neg (fun h => h.elim c_23 c_32), if_neg (fun h => h c_50), if_neg hno]; exact ⟨rfl, rfl⟩
                  · skip
                    refine j_iload C dX10_copy_83 rfl ?_
                    refine j_aload_n C dX10_copy_85 rfl rfl ?_
                    refine j_get C dX10_copy_86 jf_RX10_57 (wO mO) rfl ?_
                    refine j_iload_n C dX10_copy_89 rfl rfl ?_
                    refine j_iald C (i_8) dX10_copy_90 (wA mA14) (rfl) (hi_8) (by decide) ?_
                    refine j_iload C dX10_copy_91 rfl ?_
                    refine j_isub C dX10_copy_93 ?_
                    refine j_icmp_le (tgt := 100) C dX10_copy_94 (by decide) (fun c_94 => ?_) (fun c_94 => ?_)
                    · skip
                      have hyes : (0 ≤ p ∧ 0 ≤ m ∧ m ≤ x.1 14 i_1 ∧ p ≤ x.1 14 i_1 - m) ∧ (0 ≤ q ∧ m ≤ x.1 14 i_8 ∧ q ≤ x.1 14 i_8 - m) := by
                        rw [esz] at c_80 ⊢; rw [eso] at c_94 ⊢
                        have a1 := hsm m hm0
                        have a2 := hom m hm0
                        simp only [Int32.lt_iff_toInt_lt, Int32.le_iff_toInt_le, ← Int32.toInt_inj, Int32.reduceToInt, e_sz, e_so, a1, a2] at *; omega
                      have hb1 : p.toInt + m.toInt ≤ sz := by rw [esz] at c_80; have a1 := hsm m hm0; simp only [Int32.lt_iff_toInt_lt, Int32.le_iff_toInt_le, ← Int32.toInt_inj, Int32.reduceToInt, a1] at *; omega
                      have hb2 : q.toInt + m.toInt ≤ so := by rw [eso] at c_94; have a2 := hom m hm0; simp only [Int32.lt_iff_toInt_lt, Int32.le_iff_toInt_le, ← Int32.toInt_inj, Int32.reduceToInt, a2] at *; omega
                      obtain ⟨pN, hlp, rfl⟩ : ∃ j, j < 2147483648 ∧ p = nI j := nI_of (by have := hyes.1.1; simp only [Int32.lt_iff_toInt_lt, Int32.le_iff_toInt_le, ← Int32.toInt_inj, Int32.reduceToInt] at this ⊢; omega)
                      obtain ⟨qN, hlq, rfl⟩ : ∃ j, j < 2147483648 ∧ q = nI j := nI_of (by have := hyes.2.1; simp only [Int32.lt_iff_toInt_lt, Int32.le_iff_toInt_le, ← Int32.toInt_inj, Int32.reduceToInt] at this ⊢; omega)
                      obtain ⟨mN, hlm, rfl⟩ : ∃ j, j < 2147483648 ∧ m = nI j := nI_of (by simp only [Int32.lt_iff_toInt_lt, Int32.le_iff_toInt_le, ← Int32.toInt_inj, Int32.reduceToInt] at hm0 ⊢; omega)
                      rw [nI_toInt hlp, nI_toInt hlm] at hb1
                      rw [nI_toInt hlq, nI_toInt hlm] at hb2
                      have e_p : (nI pN).toInt = pN := nI_toInt hlp
                      have e_q : (nI qN).toInt = qN := nI_toInt hlq
                      have e_m : (nI mN).toInt = mN := nI_toInt hlm
                      refine j_iload_n C dX10_copy_100 rfl rfl ?_
                      refine j_iload_n C dX10_copy_101 rfl rfl ?_
                      refine j_icmp_ne (tgt := 115) C dX10_copy_102 (by decide) (fun c_102 => ?_) (fun c_102 => ?_)
                      · skip
                        have hne : i_1 ≠ i_8 := fun h => c_102 (by rw [h])
                        refine j_iconst (v := 0) C dX10_copy_115 rfl ?_
                        refine j_istore (lv' := [(6, _), (0, _), (1, _), (2, _), (3, _), (4, _), (5, _)]) C dX10_copy_116 (by decide) rfl ?_
                        refine j_iconst (v := 0) C dX10_copy_118 rfl ?_
                        refine j_istore (lv' := [(7, _), (6, _), (0, _), (1, _), (2, _), (3, _), (4, _), (5, _)]) C dX10_copy_119 (by decide) rfl ?_
                        have L_121 : ∀ k : Nat, ∀ (i : Nat) (x' : mS), i ≤ mN → mN < i + k → x'.2 = x.2 → (∀ c, c ≠ 15 → x'.1 c = x.1 c) → (∀ j, x'.1 15 j = if 40 * i_8 + qN ≤ j ∧ j < 40 * i_8 + qN + i then x.1 15 (40 * i_1 + pN + (j - (40 * i_8 + qN))) else x.1 15 j) → J KK (mW (kG KK) a) 0 0 x' [(0, .ref (a 0)), (1, .int (nI i_1)), (2, .int (nI pN)), (3, .int (nI i_8)), (4, .int (nI qN)), (5, .int (nI mN)), (6, .int 0), (7, .int (nI i))] 121 [] := by
                          intro k
                          induction k with
                          | zero => intro i x' h1 hk h2 hF hA; omega
                          | succ k ih =>
                            intro i x' h1 hk h2 hF hA
                            have e_i : (nI i).toInt = i := nI_toInt (by omega)
                            refine j_iload C dX10_copy_121 rfl ?_
                            refine j_iload C dX10_copy_123 rfl ?_
                            refine j_icmp_ge (tgt := 182) C dX10_copy_125 (by decide) (fun c_125 => ?_) (fun c_125 => ?_)
                            · skip
                              have hi : i = mN := by simp only [Int32.lt_iff_toInt_lt, Int32.le_iff_toInt_le, ← Int32.toInt_inj, Int32.reduceToInt, e_i, e_m] at c_125; omega
                              refine j_iload C dX10_copy_182 rfl ?_
                              refine hret _ _ _ _ dX10_copy_184 rfl ?_
                              rw [if_pos ⟨b_1, b_8⟩, nI_clamp (show i_1 < 2147483648 by omega), nI_clamp (show i_8 < 2147483648 by omega), nI_clamp hlp, nI_clamp hlq, nI_clamp hlm, if_neg (fun h => h.elim c_23 c_32), if_neg (fun h => h c_50), if_pos hyes]
                              refine ⟨rfl, h2, hF, fun j => ?_⟩
                              rw [hA j]
                              subst hi
                              first
                                | rfl
                                | (by_cases h3 : 40 * i_8 + qN ≤ j ∧ j < 40 * i_8 + qN + i
                                   · rw [if_pos h3, if_pos (by omega)]
                                   · rw [if_neg h3, if_neg (by omega)])
                            · skip
                              have hi : i < mN := by simp only [Int32.lt_iff_toInt_lt, Int32.le_iff_toInt_le, ← Int32.toInt_inj, Int32.reduceToInt, e_i, e_m] at c_125; omega
                              refine j_iload C dX10_copy_128 rfl ?_
                              refine j_if_eq (tgt := 143) C dX10_copy_130 (by decide) (fun _ => ?_) (fun c => absurd (by decide) c)
                              refine j_iload C dX10_copy_143 rfl ?_
                              refine j_istore (lv' := [(8, _), (0, _), (1, _), (2, _), (3, _), (4, _), (5, _), (6, _), (7, _)]) C dX10_copy_145 (by decide) rfl ?_
                              skip
                              refine j_aload_n C dX10_copy_147 rfl rfl ?_
                              refine j_get C dX10_copy_148 jf_RX10_60 (wO mO) rfl ?_
                              refine j_bipush (v := 40) C dX10_copy_151 rfl ?_
                              refine j_iload_n C dX10_copy_153 rfl rfl ?_
                              refine j_imul C dX10_copy_154 ?_
                              refine j_iload C dX10_copy_155 rfl ?_
                              refine j_iadd C dX10_copy_157 ?_
                              refine j_iload C dX10_copy_158 rfl ?_
                              refine j_iadd C dX10_copy_160 ?_
                              refine j_aload_n C dX10_copy_161 rfl rfl ?_
                              refine j_get C dX10_copy_162 jf_RX10_60 (wO mO) rfl ?_
                              refine j_bipush (v := 40) C dX10_copy_165 rfl ?_
                              refine j_iload_n C dX10_copy_167 rfl rfl ?_
                              refine j_imul C dX10_copy_168 ?_
                              refine j_iload_n C dX10_copy_169 rfl rfl ?_
                              refine j_iadd C dX10_copy_170 ?_
                              refine j_iload C dX10_copy_171 rfl ?_
                              refine j_iadd C dX10_copy_173 ?_
                              refine j_iald C (40 * i_1 + pN + i) dX10_copy_174 (wA mA15) (ix3) (by omega) (by decide) ?_
                              refine j_iast C (40 * i_8 + qN + i) dX10_copy_175 (wA mA15) (ix3) (by omega) (by decide) (sMa mA15 _ _) ?_
                              refine j_iinc (lv' := [(7, _), (8, _), (0, _), (1, _), (2, _), (3, _), (4, _), (5, _), (6, _)]) (v := nI (i + 1)) C dX10_copy_176 rfl (j_inc1 i) (by decide) rfl ?_
                              refine j_goto (tgt := 121) C dX10_copy_179 (by decide) ?_
                              refine j_lv (lv' := [(0, _), (1, _), (2, _), (3, _), (4, _), (5, _), (6, _), (7, _)]) rfl ?_
                              refine ih (i + 1) _ (by omega) (by omega) h2 (fun c hc => by rw [mU_1, uM_ne hc]; exact hF c hc) (fun j => ?_)
                              rw [mU_1]
                              by_cases h : j = 40 * i_8 + qN + i
                              · subst h
                                rw [uM_s, hA, if_neg (by omega), if_pos (by omega)]
                                exact congrArg _ (by omega)
                              · rw [uM_n h, hA j]
                                by_cases h3 : 40 * i_8 + qN ≤ j ∧ j < 40 * i_8 + qN + i
                                · rw [if_pos h3, if_pos (by omega)]
                                · rw [if_neg h3, if_neg (by omega)]
                        refine j_lv (lv' := [(0, _), (1, _), (2, _), (3, _), (4, _), (5, _), (6, _), (7, _)]) rfl ?_
                        exact L_121 (mN + 1) 0 x (by omega) (by omega) rfl (fun _ _ => rfl) (fun j => (if_neg (by omega)).symm)
                      · skip
                        have heq : i_1 = i_8 := (nI_eq (by omega) (by omega)).mp c_102
                        refine j_iload_n C dX10_copy_105 rfl rfl ?_
                        refine j_iload C dX10_copy_106 rfl ?_
                        refine j_icmp_ge (tgt := 115) C dX10_copy_108 (by decide) (fun c_108 => ?_) (fun c_108 => ?_)
                        · skip
                          have hqp : qN ≤ pN := by simp only [Int32.lt_iff_toInt_lt, Int32.le_iff_toInt_le, ← Int32.toInt_inj, Int32.reduceToInt, e_p, e_q] at c_108; omega
                          refine j_iconst (v := 0) C dX10_copy_115 rfl ?_
                          refine j_istore (lv' := [(6, _), (0, _), (1, _), (2, _), (3, _), (4, _), (5, _)]) C dX10_copy_116 (by decide) rfl ?_
                          refine j_iconst (v := 0) C dX10_copy_118 rfl ?_
                          refine j_istore (lv' := [(7, _), (6, _), (0, _), (1, _), (2, _), (3, _), (4, _), (5, _)]) C dX10_copy_119 (by decide) rfl ?_
                          have L_121 : ∀ k : Nat, ∀ (i : Nat) (x' : mS), i ≤ mN → mN < i + k → x'.2 = x.2 → (∀ c, c ≠ 15 → x'.1 c = x.1 c) → (∀ j, x'.1 15 j = if 40 * i_8 + qN ≤ j ∧ j < 40 * i_8 + qN + i then x.1 15 (40 * i_1 + pN + (j - (40 * i_8 + qN))) else x.1 15 j) → J KK (mW (kG KK) a) 0 0 x' [(0, .ref (a 0)), (1, .int (nI i_1)), (2, .int (nI pN)), (3, .int (nI i_8)), (4, .int (nI qN)), (5, .int (nI mN)), (6, .int 0), (7, .int (nI i))] 121 [] := by
                            intro k
                            induction k with
                            | zero => intro i x' h1 hk h2 hF hA; omega
                            | succ k ih =>
                              intro i x' h1 hk h2 hF hA
                              have e_i : (nI i).toInt = i := nI_toInt (by omega)
                              refine j_iload C dX10_copy_121 rfl ?_
                              refine j_iload C dX10_copy_123 rfl ?_
                              refine j_icmp_ge (tgt := 182) C dX10_copy_125 (by decide) (fun c_125 => ?_) (fun c_125 => ?_)
                              · skip
                                have hi : i = mN := by simp only [Int32.lt_iff_toInt_lt, Int32.le_iff_toInt_le, ← Int32.toInt_inj, Int32.reduceToInt, e_i, e_m] at c_125; omega
                                refine j_iload C dX10_copy_182 rfl ?_
                                refine hret _ _ _ _ dX10_copy_184 rfl ?_
                                rw [if_pos ⟨b_1, b_8⟩, nI_clamp (show i_1 < 2147483648 by omega), nI_clamp (show i_8 < 2147483648 by omega), nI_clamp hlp, nI_clamp hlq, nI_clamp hlm, if_neg (fun h => h.elim c_23 c_32), if_neg (fun h => h c_50), if_pos hyes]
                                refine ⟨rfl, h2, hF, fun j => ?_⟩
                                rw [hA j]
                                subst hi
                                first
                                  | rfl
                                  | (by_cases h3 : 40 * i_8 + qN ≤ j ∧ j < 40 * i_8 + qN + i
                                     · rw [if_pos h3, if_pos (by omega)]
                                     · rw [if_neg h3, if_neg (by omega)])
                              · skip
                                have hi : i < mN := by simp only [Int32.lt_iff_toInt_lt, Int32.le_iff_toInt_le, ← Int32.toInt_inj, Int32.reduceToInt, e_i, e_m] at c_125; omega
                                refine j_iload C dX10_copy_128 rfl ?_
                                refine j_if_eq (tgt := 143) C dX10_copy_130 (by decide) (fun _ => ?_) (fun c => absurd (by decide) c)
                                refine j_iload C dX10_copy_143 rfl ?_
                                refine j_istore (lv' := [(8, _), (0, _), (1, _), (2, _), (3, _), (4, _), (5, _), (6, _), (7, _)]) C dX10_copy_145 (by decide) rfl ?_
                                skip
                                refine j_aload_n C dX10_copy_147 rfl rfl ?_
                                refine j_get C dX10_copy_148 jf_RX10_60 (wO mO) rfl ?_
                                refine j_bipush (v := 40) C dX10_copy_151 rfl ?_
                                refine j_iload_n C dX10_copy_153 rfl rfl ?_
                                refine j_imul C dX10_copy_154 ?_
                                refine j_iload C dX10_copy_155 rfl ?_
                                refine j_iadd C dX10_copy_157 ?_
                                refine j_iload C dX10_copy_158 rfl ?_
                                refine j_iadd C dX10_copy_160 ?_
                                refine j_aload_n C dX10_copy_161 rfl rfl ?_
                                refine j_get C dX10_copy_162 jf_RX10_60 (wO mO) rfl ?_
                                refine j_bipush (v := 40) C dX10_copy_165 rfl ?_
                                refine j_iload_n C dX10_copy_167 rfl rfl ?_
                                refine j_imul C dX10_copy_168 ?_
                                refine j_iload_n C dX10_copy_169 rfl rfl ?_
                                refine j_iadd C dX10_copy_170 ?_
                                refine j_iload C dX10_copy_171 rfl ?_
                                refine j_iadd C dX10_copy_173 ?_
                                refine j_iald C (40 * i_1 + pN + i) dX10_copy_174 (wA mA15) (ix3) (by omega) (by decide) ?_
                                refine j_iast C (40 * i_8 + qN + i) dX10_copy_175 (wA mA15) (ix3) (by omega) (by decide) (sMa mA15 _ _) ?_
                                refine j_iinc (lv' := [(7, _), (8, _), (0, _), (1, _), (2, _), (3, _), (4, _), (5, _), (6, _)]) (v := nI (i + 1)) C dX10_copy_176 rfl (j_inc1 i) (by decide) rfl ?_
                                refine j_goto (tgt := 121) C dX10_copy_179 (by decide) ?_
                                refine j_lv (lv' := [(0, _), (1, _), (2, _), (3, _), (4, _), (5, _), (6, _), (7, _)]) rfl ?_
                                refine ih (i + 1) _ (by omega) (by omega) h2 (fun c hc => by rw [mU_1, uM_ne hc]; exact hF c hc) (fun j => ?_)
                                rw [mU_1]
                                by_cases h : j = 40 * i_8 + qN + i
                                · subst h
                                  rw [uM_s, hA, if_neg (by omega), if_pos (by omega)]
                                  exact congrArg _ (by omega)
                                · rw [uM_n h, hA j]
                                  by_cases h3 : 40 * i_8 + qN ≤ j ∧ j < 40 * i_8 + qN + i
                                  · rw [if_pos h3, if_pos (by omega)]
                                  · rw [if_neg h3, if_neg (by omega)]
                          refine j_lv (lv' := [(0, _), (1, _), (2, _), (3, _), (4, _), (5, _), (6, _), (7, _)]) rfl ?_
                          exact L_121 (mN + 1) 0 x (by omega) (by omega) rfl (fun _ _ => rfl) (fun j => (if_neg (by omega)).symm)
                        · skip
                          have hpq : pN < qN := by simp only [Int32.lt_iff_toInt_lt, Int32.le_iff_toInt_le, ← Int32.toInt_inj, Int32.reduceToInt, e_p, e_q] at c_108; omega
                          refine j_iconst (v := 1) C dX10_copy_111 rfl ?_
                          refine j_goto (tgt := 116) C dX10_copy_112 (by decide) ?_
                          refine j_istore (lv' := [(6, _), (0, _), (1, _), (2, _), (3, _), (4, _), (5, _)]) C dX10_copy_116 (by decide) rfl ?_
                          refine j_iconst (v := 0) C dX10_copy_118 rfl ?_
                          refine j_istore (lv' := [(7, _), (6, _), (0, _), (1, _), (2, _), (3, _), (4, _), (5, _)]) C dX10_copy_119 (by decide) rfl ?_
                          have L_121 : ∀ k : Nat, ∀ (i : Nat) (x' : mS), i ≤ mN → mN < i + k → x'.2 = x.2 → (∀ c, c ≠ 15 → x'.1 c = x.1 c) → (∀ j, x'.1 15 j = if 40 * i_8 + qN + mN - i ≤ j ∧ j < 40 * i_8 + qN + mN then x.1 15 (40 * i_1 + pN + (j - (40 * i_8 + qN))) else x.1 15 j) → J KK (mW (kG KK) a) 0 0 x' [(0, .ref (a 0)), (1, .int (nI i_1)), (2, .int (nI pN)), (3, .int (nI i_8)), (4, .int (nI qN)), (5, .int (nI mN)), (6, .int 1), (7, .int (nI i))] 121 [] := by
                            intro k
                            induction k with
                            | zero => intro i x' h1 hk h2 hF hA; omega
                            | succ k ih =>
                              intro i x' h1 hk h2 hF hA
                              have e_i : (nI i).toInt = i := nI_toInt (by omega)
                              refine j_iload C dX10_copy_121 rfl ?_
                              refine j_iload C dX10_copy_123 rfl ?_
                              refine j_icmp_ge (tgt := 182) C dX10_copy_125 (by decide) (fun c_125 => ?_) (fun c_125 => ?_)
                              · skip
                                have hi : i = mN := by simp only [Int32.lt_iff_toInt_lt, Int32.le_iff_toInt_le, ← Int32.toInt_inj, Int32.reduceToInt, e_i, e_m] at c_125; omega
                                refine j_iload C dX10_copy_182 rfl ?_
                                refine hret _ _ _ _ dX10_copy_184 rfl ?_
                                rw [if_pos ⟨b_1, b_8⟩, nI_clamp (show i_1 < 2147483648 by omega), nI_clamp (show i_8 < 2147483648 by omega), nI_clamp hlp, nI_clamp hlq, nI_clamp hlm, if_neg (fun h => h.elim c_23 c_32), if_neg (fun h => h c_50), if_pos hyes]
                                refine ⟨rfl, h2, hF, fun j => ?_⟩
                                rw [hA j]
                                subst hi
                                first
                                  | rfl
                                  | (by_cases h3 : 40 * i_8 + qN ≤ j ∧ j < 40 * i_8 + qN + i
                                     · rw [if_pos h3, if_pos (by omega)]
                                     · rw [if_neg h3, if_neg (by omega)])
                              · skip
                                have hi : i < mN := by simp only [Int32.lt_iff_toInt_lt, Int32.le_iff_toInt_le, ← Int32.toInt_inj, Int32.reduceToInt, e_i, e_m] at c_125; omega
                                refine j_iload C dX10_copy_128 rfl ?_
                                refine j_if_eq (tgt := 143) C dX10_copy_130 (by decide) (fun c => absurd c (by decide)) (fun _ => ?_)
                                refine j_iload C dX10_copy_133 rfl ?_
                                refine j_iconst (v := 1) C dX10_copy_135 rfl ?_
                                refine j_isub C dX10_copy_136 ?_
                                refine j_iload C dX10_copy_137 rfl ?_
                                refine j_isub C dX10_copy_139 ?_
                                refine j_goto (tgt := 145) C dX10_copy_140 (by decide) ?_
                                refine j_istore (lv' := [(8, _), (0, _), (1, _), (2, _), (3, _), (4, _), (5, _), (6, _), (7, _)]) C dX10_copy_145 (by decide) rfl ?_
                                have eQ : nI mN - 1 - nI i = nI (mN - 1 - i) := by
                                  rw [show nI mN - 1 = nI (mN - 1) from pk_sub (b := 1) (by omega)]; exact pk_sub (by omega)
                                refine j_aload_n C dX10_copy_147 rfl rfl ?_
                                refine j_get C dX10_copy_148 jf_RX10_60 (wO mO) rfl ?_
                                refine j_bipush (v := 40) C dX10_copy_151 rfl ?_
                                refine j_iload_n C dX10_copy_153 rfl rfl ?_
                                refine j_imul C dX10_copy_154 ?_
                                refine j_iload C dX10_copy_155 rfl ?_
                                refine j_iadd C dX10_copy_157 ?_
                                refine j_iload C dX10_copy_158 rfl ?_
                                refine j_iadd C dX10_copy_160 ?_
                                refine j_aload_n C dX10_copy_161 rfl rfl ?_
                                refine j_get C dX10_copy_162 jf_RX10_60 (wO mO) rfl ?_
                                refine j_bipush (v := 40) C dX10_copy_165 rfl ?_
                                refine j_iload_n C dX10_copy_167 rfl rfl ?_
                                refine j_imul C dX10_copy_168 ?_
                                refine j_iload_n C dX10_copy_169 rfl rfl ?_
                                refine j_iadd C dX10_copy_170 ?_
                                refine j_iload C dX10_copy_171 rfl ?_
                                refine j_iadd C dX10_copy_173 ?_
                                refine j_iald C (40 * i_1 + pN + (mN - 1 - i)) dX10_copy_174 (wA mA15) ((by rw [eQ]; exact ix3)) (by omega) (by decide) ?_
                                refine j_iast C (40 * i_8 + qN + (mN - 1 - i)) dX10_copy_175 (wA mA15) ((by rw [eQ]; exact ix3)) (by omega) (by decide) (sMa mA15 _ _) ?_
                                refine j_iinc (lv' := [(7, _), (8, _), (0, _), (1, _), (2, _), (3, _), (4, _), (5, _), (6, _)]) (v := nI (i + 1)) C dX10_copy_176 rfl (j_inc1 i) (by decide) rfl ?_
                                refine j_goto (tgt := 121) C dX10_copy_179 (by decide) ?_
                                refine j_lv (lv' := [(0, _), (1, _), (2, _), (3, _), (4, _), (5, _), (6, _), (7, _)]) rfl ?_
                                refine ih (i + 1) _ (by omega) (by omega) h2 (fun c hc => by rw [mU_1, uM_ne hc]; exact hF c hc) (fun j => ?_)
                                rw [mU_1]
                                by_cases h : j = 40 * i_8 + qN + (mN - 1 - i)
                                · subst h
                                  rw [uM_s, hA, if_neg (by omega), if_pos (by omega)]
                                  exact congrArg _ (by omega)
                                · rw [uM_n h, hA j]
                                  by_cases h3 : 40 * i_8 + qN + mN - i ≤ j ∧ j < 40 * i_8 + qN + mN
                                  · rw [if_pos h3, if_pos (by omega)]
                                  · rw [if_neg h3, if_neg (by omega)]
                          refine j_lv (lv' := [(0, _), (1, _), (2, _), (3, _), (4, _), (5, _), (6, _), (7, _)]) rfl ?_
                          exact L_121 (mN + 1) 0 x (by omega) (by omega) rfl (fun _ _ => rfl) (fun j => (if_neg (by omega)).symm)
                    · skip
                      have hno : ¬ ((0 ≤ p ∧ 0 ≤ m ∧ m ≤ x.1 14 i_1 ∧ p ≤ x.1 14 i_1 - m) ∧ (0 ≤ q ∧ m ≤ x.1 14 i_8 ∧ q ≤ x.1 14 i_8 - m)) := fun h => by have := h.2.2.2; simp only [Int32.lt_iff_toInt_lt, Int32.le_iff_toInt_le, ← Int32.toInt_inj, Int32.reduceToInt] at this c_94; omega
                      refine j_bipush (v := -12) C dX10_copy_97 rfl ?_
                      refine hret _ _ _ _ dX10_copy_99 rfl ?_
                      rw [if_pos ⟨b_1, b_8⟩, nI_clamp (show i_1 < 2147483648 by omega), nI_clamp (show i_8 < 2147483648 by omega), if_neg (fun h => h.elim c_23 c_32), if_neg (fun h => h c_50), if_neg hno]; exact ⟨rfl, rfl⟩
          · skip
            refine j_bipush (v := -13) C dX10_copy_53 rfl ?_
            refine hret _ _ _ _ dX10_copy_55 rfl ?_
            rw [if_pos ⟨b_1, b_8⟩, nI_clamp (show i_1 < 2147483648 by omega), nI_clamp (show i_8 < 2147483648 by omega), if_neg (fun h => h.elim c_23 c_32), if_pos c_50]; exact ⟨rfl, rfl⟩
        · skip
          refine j_bipush (v := -11) C dX10_copy_35 rfl ?_
          refine hret _ _ _ _ dX10_copy_37 rfl ?_
          rw [if_pos ⟨b_1, b_8⟩, nI_clamp (show i_1 < 2147483648 by omega), nI_clamp (show i_8 < 2147483648 by omega), if_pos (Or.inr c_32)]; exact ⟨rfl, rfl⟩
    · skip
      refine j_if_ne (tgt := 17) C dX10_copy_11 (by decide) (fun c => absurd (by decide) c) (fun _ => ?_)
      refine j_bipush (v := -2) C dX10_copy_14 rfl ?_
      refine hret _ _ _ _ dX10_copy_16 rfl ?_
      rw [if_neg (fun h => b_8 h.2)]; exact ⟨rfl, rfl⟩
  · skip
    refine j_if_eq (tgt := 14) C dX10_copy_4 (by decide) (fun _ => ?_) (fun c => absurd (by decide) c)
    refine j_bipush (v := -2) C dX10_copy_14 rfl ?_
    refine hret _ _ _ _ dX10_copy_16 rfl ?_
    rw [if_neg (fun h => b_1 h.1)]; exact ⟨rfl, rfl⟩
set_option maxHeartbeats 4000000 in
set_option maxRecDepth 100000 in
theorem c_X10_gloves (l : Launch) (g : jG) (a : Nat → Nat) (x : mS) (s : Int32) (t : Int32) (p : Int32) (m : Int32) (n : Nat) (hn : mnR x n) (h40 : ∀ i, i < 4 → ¬ x.1 12 i = 0 → ∃ sz, sz ≤ 40 ∧ x.1 14 i = nI sz) : Ci l g yX10_gloves cX10_gloves 8 .int 2 48 0 0 (mW g a) [.ref (a 0), .int s, .int t, .int p, .int m] x (fun r z => if (0 ≤ s ∧ s < 4) ∧ (0 ≤ t ∧ t < 3) ∧ (0 ≤ m ∧ m < 7) then (if ¬ x.1 12 s.toNatClampNeg = 0 ∧ ¬ x.1 13 s.toNatClampNeg = t then r = -13 ∧ z = x else if x.1 12 s.toNatClampNeg = 0 then r = -11 ∧ z = x else r = (rnY (fun j => x.1 15 (40 * s.toNatClampNeg + j)) (x.1 14 s.toNatClampNeg) m.toNatClampNeg p x n 0).1 ∧ z = (rnY (fun j => x.1 15 (40 * s.toNatClampNeg + j)) (x.1 14 s.toNatClampNeg) m.toNatClampNeg p x n 0).2.1) else r = -2 ∧ z = x) := by
  refine mk_i (by decide +kernel) rfl (fun KK hKl hKg C hin hret => ?_)
  subst hKl; subst hKg
  refine j_lv (lv' := [(0, _), (1, _), (2, _), (3, _), (4, _)]) rfl ?_
  refine j_iload_n C dX10_gloves_0 rfl rfl ?_
  refine j_callis C (c_X10_isSheet _ _ _ _ _ ) dX10_gloves_1 jm_RX10_365 ⟨by decide, by decide, by decide, by decide⟩ rfl (Nat.le_of_ble_eq_true rfl) (fun r z hz => ?_)
  obtain ⟨hb, hz⟩ := hz; have hz := hz.symm; subst hz
  rcases hb with ⟨rfl, b_1⟩ | ⟨rfl, b_1⟩
  · skip
    obtain ⟨i_1, hi_1, rfl⟩ := in_of (B := 4) b_1 rfl
    refine j_if_eq (tgt := 32) C dX10_gloves_4 (by decide) (fun c => absurd c (by decide)) (fun _ => ?_)
    refine j_iload_n C dX10_gloves_7 rfl rfl ?_
    refine j_i2l C dX10_gloves_8 ?_
    refine j_lconst (v := 0) C dX10_gloves_9 rfl ?_
    refine j_ldc2 C dX10_gloves_10 jc_RX10_340 ?_
    refine j_callis C (c_X10_in _ _ _ _ _ _ _ ) dX10_gloves_13 jm_RX10_73 ⟨by decide, by decide, by decide, by decide⟩ rfl (Nat.le_of_ble_eq_true rfl) (fun r z hz => ?_)
    obtain ⟨hb, hz⟩ := hz; have hz := hz.symm; subst hz
    rcases hb with ⟨rfl, b_13⟩ | ⟨rfl, b_13⟩
    · skip
      have ht3 : 0 ≤ t ∧ t < 3 := by simp only [Int32.lt_iff_toInt_lt, Int32.le_iff_toInt_le, ← Int32.toInt_inj, Int32.reduceToInt, Int64.lt_iff_toInt_lt, Int64.le_iff_toInt_le, Int32.toInt_toInt64, Int64.reduceToInt] at b_13 ⊢; omega
      refine j_if_eq (tgt := 32) C dX10_gloves_16 (by decide) (fun c => absurd c (by decide)) (fun _ => ?_)
      refine j_iload C dX10_gloves_19 rfl ?_
      refine j_i2l C dX10_gloves_21 ?_
      refine j_lconst (v := 0) C dX10_gloves_22 rfl ?_
      refine j_ldc2 C dX10_gloves_23 jc_RX10_77 ?_
      refine j_callis C (c_X10_in _ _ _ _ _ _ _ ) dX10_gloves_26 jm_RX10_73 ⟨by decide, by decide, by decide, by decide⟩ rfl (Nat.le_of_ble_eq_true rfl) (fun r z hz => ?_)
      obtain ⟨hb, hz⟩ := hz; have hz := hz.symm; subst hz
      rcases hb with ⟨rfl, b_26⟩ | ⟨rfl, b_26⟩
      · skip
        have hm7 : 0 ≤ m ∧ m < 7 := by simp only [Int32.lt_iff_toInt_lt, Int32.le_iff_toInt_le, ← Int32.toInt_inj, Int32.reduceToInt, Int64.lt_iff_toInt_lt, Int64.le_iff_toInt_le, Int32.toInt_toInt64, Int64.reduceToInt] at b_26 ⊢; omega
        obtain ⟨mN, hm7n, rfl⟩ := in_of (B := 7) hm7 rfl
        have e_m : (nI mN).toInt = mN := nI_toInt (by omega)
        refine j_if_ne (tgt := 35) C dX10_gloves_29 (by decide) (fun _ => ?_) (fun c => absurd c (by decide))
        refine j_aload_n C dX10_gloves_35 rfl rfl ?_
        refine j_get C dX10_gloves_36 jf_RX10_50 (wO mO) rfl ?_
        refine j_iload_n C dX10_gloves_39 rfl rfl ?_
        refine j_zald C (i_1) dX10_gloves_40 (wA mA12) (rfl) (hi_1) (by decide) ?_
        refine j_if_eq (tgt := 57) C dX10_gloves_41 (by decide) (fun c_41 => ?_) (fun c_41 => ?_)
        · skip
          refine j_aload_n C dX10_gloves_57 rfl rfl ?_
          refine j_get C dX10_gloves_58 jf_RX10_50 (wO mO) rfl ?_
          refine j_iload_n C dX10_gloves_61 rfl rfl ?_
          refine j_zald C (i_1) dX10_gloves_62 (wA mA12) (rfl) (hi_1) (by decide) ?_
          refine j_if_ne (tgt := 69) C dX10_gloves_63 (by decide) (fun c_63 => ?_) (fun c_63 => ?_)
          · skip
            exact absurd c_41 c_63
          · skip
            skip
            refine j_bipush (v := -11) C dX10_gloves_66 rfl ?_
            refine hret _ _ _ _ dX10_gloves_68 rfl ?_
            rw [if_pos ⟨b_1, ht3, hm7⟩, nI_clamp (show i_1 < 2147483648 by omega), if_neg (fun h => h.1 c_41), if_pos c_41]; exact ⟨rfl, rfl⟩
        · skip
          refine j_aload_n C dX10_gloves_44 rfl rfl ?_
          refine j_get C dX10_gloves_45 jf_RX10_54 (wO mO) rfl ?_
          refine j_iload_n C dX10_gloves_48 rfl rfl ?_
          refine j_iald C (i_1) dX10_gloves_49 (wA mA13) (rfl) (hi_1) (by decide) ?_
          refine j_iload_n C dX10_gloves_50 rfl rfl ?_
          refine j_icmp_eq (tgt := 57) C dX10_gloves_51 (by decide) (fun c_51 => ?_) (fun c_51 => ?_)
          · skip
            refine j_aload_n C dX10_gloves_57 rfl rfl ?_
            refine j_get C dX10_gloves_58 jf_RX10_50 (wO mO) rfl ?_
            refine j_iload_n C dX10_gloves_61 rfl rfl ?_
            refine j_zald C (i_1) dX10_gloves_62 (wA mA12) (rfl) (hi_1) (by decide) ?_
            refine j_if_ne (tgt := 69) C dX10_gloves_63 (by decide) (fun c_63 => ?_) (fun c_63 => ?_)
            · skip
              skip
              refine j_iconst (v := 0) C dX10_gloves_69 rfl ?_
              refine j_istore (lv' := [(5, _), (0, _), (1, _), (2, _), (3, _), (4, _)]) C dX10_gloves_70 (by decide) rfl ?_
              refine j_iconst (v := 0) C dX10_gloves_72 rfl ?_
              refine j_istore (lv' := [(6, _), (5, _), (0, _), (1, _), (2, _), (3, _), (4, _)]) C dX10_gloves_73 (by decide) rfl ?_
              obtain ⟨sz, hsz, esz⟩ := h40 i_1 hi_1 c_41
              have e_sz : (nI sz).toInt = sz := nI_toInt (by omega)
              have e1_sz : (nI sz - 1).toInt = (sz : Int) - 1 := by rw [i32_sub] <;> rw [e_sz] <;> simp <;> omega
              have L_75 : ∀ k : Nat, ∀ (i : Nat) (x' : mS) (n' : Nat) (c y : Int32), i ≤ mN → mN < i + k → mnR x' n' → (∀ c, (12 ≤ c ∧ c ≤ 15) → x'.1 c = x.1 c) → y.toInt = p.toInt + 3 * i → (i = 0 ∨ (0 ≤ p ∧ p.toInt + 3 * i ≤ sz)) → (rnY (fun j => x.1 15 (40 * i_1 + j)) (x.1 14 i_1) mN p x n 0) = rnY (fun j => x.1 15 (40 * i_1 + j)) (x.1 14 i_1) (mN - i) y x' n' c → J KK (mW (kG KK) a) 0 0 x' [(0, .ref (a 0)), (1, .int (nI i_1)), (2, .int t), (3, .int p), (4, .int (nI mN)), (5, .int c), (6, .int (nI i))] 75 [] := by
                intro k
                induction k with
                | zero => intro i x' n' c y h1 hk hn' hF hy hp hR; omega
                | succ k ih =>
                  intro i x' n' c y h1 hk hn' hF hy hp hR
                  have e_i : (nI i).toInt = i := nI_toInt (by omega)
                  have hn6' := hn'.2
                  have h14 : x'.1 14 = x.1 14 := hF 14 (by decide)
                  have h15 : x'.1 15 = x.1 15 := hF 15 (by decide)
                  refine j_iload C dX10_gloves_75 rfl ?_
                  refine j_iload C dX10_gloves_77 rfl ?_
                  refine j_icmp_ge (tgt := 167) C dX10_gloves_79 (by decide) (fun c_79 => ?_) (fun c_79 => ?_)
                  · skip
                    have hi : mN - i = 0 := by simp only [Int32.lt_iff_toInt_lt, Int32.le_iff_toInt_le, ← Int32.toInt_inj, Int32.reduceToInt, e_i, e_m] at c_79; omega
                    refine j_iload C dX10_gloves_167 rfl ?_
                    refine hret _ _ _ _ dX10_gloves_169 rfl ?_
                    rw [if_pos ⟨b_1, ht3, hm7⟩, nI_clamp (show i_1 < 2147483648 by omega), nI_clamp (show mN < 2147483648 by omega), if_neg (fun h => h.2 c_51), if_neg c_41, hR, hi]; exact ⟨rfl, rfl⟩
                  · skip
                    have hi : i < mN := by simp only [Int32.lt_iff_toInt_lt, Int32.le_iff_toInt_le, ← Int32.toInt_inj, Int32.reduceToInt, e_i, e_m] at c_79; omega
                    obtain ⟨k', hm⟩ : ∃ k', mN - i = k' + 1 := ⟨mN - i - 1, by omega⟩
                    refine j_iload_n C dX10_gloves_82 rfl rfl ?_
                    refine j_if_lt (tgt := 103) C dX10_gloves_83 (by decide) (fun c_83 => ?_) (fun c_83 => ?_)
                    · skip
                      have hc : ¬ (0 ≤ y ∧ 3 ≤ x.1 14 i_1 ∧ y ≤ x.1 14 i_1 - 3) := fun h => by have h9 := h.1; simp only [Int32.lt_iff_toInt_lt, Int32.le_iff_toInt_le, ← Int32.toInt_inj, Int32.reduceToInt] at h9 c_83 hp; omega
                      refine j_bipush (v := -12) C dX10_gloves_103 rfl ?_
                      refine hret _ _ _ _ dX10_gloves_105 rfl ?_
                      rw [if_pos ⟨b_1, ht3, hm7⟩, nI_clamp (show i_1 < 2147483648 by omega), nI_clamp (show mN < 2147483648 by omega), if_neg (fun h => h.2 c_51), if_neg c_41, hR, hm, rnY, if_neg hc]; exact ⟨rfl, rfl⟩
                    · skip
                      have hp0 : 0 ≤ p := by simp only [Int32.lt_iff_toInt_lt, Int32.le_iff_toInt_le, ← Int32.toInt_inj, Int32.reduceToInt] at c_83 ⊢; omega
                      have e_sub : (x'.1 14 i_1 - 3 * nI i - 3).toInt = (sz : Int) - 3 * i - 3 := by
                        rw [h14, esz, show (3 : Int32) * nI i = nI (3 * i) from pk_mul 3 i]
                        have e1 : (nI sz - nI (3 * i)).toInt = (sz : Int) - (3 * i : Nat) := by rw [i32_sub] <;> rw [e_sz, nI_toInt (by omega)] <;> omega
                        rw [i32_sub] <;> rw [e1] <;> simp <;> omega
                      have e_s3 : (x.1 14 i_1 - 3).toInt = (sz : Int) - 3 := by
                        rw [esz, i32_sub] <;> rw [e_sz] <;> simp <;> omega
                      have e_sx : (x.1 14 i_1).toInt = sz := by rw [esz]; exact e_sz
                      refine j_iload_n C dX10_gloves_86 rfl rfl ?_
                      refine j_aload_n C dX10_gloves_87 rfl rfl ?_
                      refine j_get C dX10_gloves_88 jf_RX10_57 (wO mO) rfl ?_
                      refine j_iload_n C dX10_gloves_91 rfl rfl ?_
                      refine j_iald C (i_1) dX10_gloves_92 (wA mA14) (rfl) (hi_1) (by decide) ?_
                      refine j_iconst (v := 3) C dX10_gloves_93 rfl ?_
                      refine j_iload C dX10_gloves_94 rfl ?_
                      refine j_imul C dX10_gloves_96 ?_
                      refine j_isub C dX10_gloves_97 ?_
                      refine j_iconst (v := 3) C dX10_gloves_98 rfl ?_
                      refine j_isub C dX10_gloves_99 ?_
                      refine j_icmp_le (tgt := 106) C dX10_gloves_100 (by decide) (fun c_100 => ?_) (fun c_100 => ?_)
                      · skip
                        have hc : 0 ≤ y ∧ 3 ≤ x.1 14 i_1 ∧ y ≤ x.1 14 i_1 - 3 := by simp only [Int32.lt_iff_toInt_lt, Int32.le_iff_toInt_le, ← Int32.toInt_inj, Int32.reduceToInt, e_sub, e_s3, e_sx] at c_100 hp0 ⊢; omega
                        obtain ⟨pN, hlp, ep⟩ : ∃ j, j < 2147483648 ∧ p = nI j := nI_of (by simp only [Int32.lt_iff_toInt_lt, Int32.le_iff_toInt_le, ← Int32.toInt_inj, Int32.reduceToInt] at hp0 ⊢; omega)
                        have e_p : p.toInt = pN := by rw [ep]; exact nI_toInt hlp
                        have hb : pN + 3 * i + 3 ≤ sz := by simp only [Int32.lt_iff_toInt_lt, Int32.le_iff_toInt_le, ← Int32.toInt_inj, Int32.reduceToInt, e_sub] at c_100; omega
                        have ey : y = nI (pN + 3 * i) := Int32.toInt_inj.mp (by rw [nI_toInt (by omega), hy, e_p]; omega)
                        have ecl : y.toNatClampNeg = pN + 3 * i := by rw [ey]; exact nI_clamp (by omega)
                        have eix : (40 : Int32) * nI i_1 + p + 3 * nI i = nI (40 * i_1 + (pN + 3 * i)) := by
                          rw [ep, show (3 : Int32) * nI i = nI (3 * i) from pk_mul 3 i, ix3, Nat.add_assoc]
                        refine j_bipush (v := 40) C dX10_gloves_106 rfl ?_
                        refine j_iload_n C dX10_gloves_108 rfl rfl ?_
                        refine j_imul C dX10_gloves_109 ?_
                        refine j_iload_n C dX10_gloves_110 rfl rfl ?_
                        refine j_iadd C dX10_gloves_111 ?_
                        refine j_iconst (v := 3) C dX10_gloves_112 rfl ?_
                        refine j_iload C dX10_gloves_113 rfl ?_
                        refine j_imul C dX10_gloves_115 ?_
                        refine j_iadd C dX10_gloves_116 ?_
                        refine j_istore (lv' := [(7, _), (0, _), (1, _), (2, _), (3, _), (4, _), (5, _), (6, _)]) C dX10_gloves_117 (by decide) rfl ?_
                        refine j_iload C dX10_gloves_119 rfl ?_
                        refine j_aload_n C dX10_gloves_121 rfl rfl ?_
                        refine j_aload_n C dX10_gloves_122 rfl rfl ?_
                        refine j_get C dX10_gloves_123 jf_RX10_60 (wO mO) rfl ?_
                        refine j_iload C dX10_gloves_126 rfl ?_
                        refine j_iald C (40 * i_1 + (pN + 3 * i)) dX10_gloves_128 (wA mA15) (eix) (by omega) (by decide) ?_
                        refine j_aload_n C dX10_gloves_129 rfl rfl ?_
                        refine j_get C dX10_gloves_130 jf_RX10_60 (wO mO) rfl ?_
                        refine j_iload C dX10_gloves_133 rfl ?_
                        refine j_iconst (v := 1) C dX10_gloves_135 rfl ?_
                        refine j_iadd C dX10_gloves_136 ?_
                        refine j_iald C (40 * i_1 + (pN + 3 * i + 1)) dX10_gloves_137 (wA mA15) ((congrArg (· + nI 1) eix).trans (nI_add _ _)) (by omega) (by decide) ?_
                        refine j_aload_n C dX10_gloves_138 rfl rfl ?_
                        refine j_get C dX10_gloves_139 jf_RX10_60 (wO mO) rfl ?_
                        refine j_iload C dX10_gloves_142 rfl ?_
                        refine j_iconst (v := 2) C dX10_gloves_144 rfl ?_
                        refine j_iadd C dX10_gloves_145 ?_
                        refine j_iald C (40 * i_1 + (pN + 3 * i + 2)) dX10_gloves_146 (wA mA15) ((congrArg (· + nI 2) eix).trans (nI_add _ _)) (by omega) (by decide) ?_
                        refine j_calliv C (c_X10_glove _ _ _ _ _ _ _ n' hn') dX10_gloves_147 jm_RX10_385 ⟨_, _, _, _, wO mO, rfl, rfl⟩ ⟨by decide, by decide, by decide, by decide⟩ rfl (Nat.le_of_ble_eq_true rfl) (fun r_147 z_147 hz_147 => ?_)
                        skip
                        refine j_if_lt (tgt := 157) C dX10_gloves_150 (by decide) (fun c_150 => ?_) (fun c_150 => ?_)
                        · skip
                          skip
                          refine j_iconst (v := 0) C dX10_gloves_157 rfl ?_
                          refine j_iadd C dX10_gloves_158 ?_
                          refine j_istore (lv' := [(5, _), (7, _), (0, _), (1, _), (2, _), (3, _), (4, _), (6, _)]) C dX10_gloves_159 (by decide) rfl ?_
                          refine j_iinc (lv' := [(6, _), (5, _), (7, _), (0, _), (1, _), (2, _), (3, _), (4, _)]) (v := nI (i + 1)) C dX10_gloves_161 rfl (j_inc1 i) (by decide) rfl ?_
                          refine j_goto (tgt := 75) C dX10_gloves_164 (by decide) ?_
                          refine j_lv (lv' := [(0, _), (1, _), (2, _), (3, _), (4, _), (5, _), (6, _)]) rfl ?_
                          have h3 : (y + 3).toInt = y.toInt + 3 := by rw [i32_add] <;> simp <;> omega
                          obtain ⟨h4, rfl⟩ := gl_neg hn'.2 hz_147 c_150
                          rw [h15] at h4
                          rw [hm, rnY, if_pos hc, if_neg (by rw [ecl]; exact h4)] at hR
                          exact ih (i + 1) _ n' _ (y + 3) (by omega) (by omega) hn' hF (by omega) (Or.inr ⟨hp0, by omega⟩) (by rw [hR, show mN - (i + 1) = k' by omega]; exact congrArg (rnY _ _ _ _ _ _) (Int32.add_zero c).symm)
                        · skip
                          skip
                          refine j_iconst (v := 1) C dX10_gloves_153 rfl ?_
                          refine j_goto (tgt := 158) C dX10_gloves_154 (by decide) ?_
                          refine j_iadd C dX10_gloves_158 ?_
                          refine j_istore (lv' := [(5, _), (7, _), (0, _), (1, _), (2, _), (3, _), (4, _), (6, _)]) C dX10_gloves_159 (by decide) rfl ?_
                          refine j_iinc (lv' := [(6, _), (5, _), (7, _), (0, _), (1, _), (2, _), (3, _), (4, _)]) (v := nI (i + 1)) C dX10_gloves_161 rfl (j_inc1 i) (by decide) rfl ?_
                          refine j_goto (tgt := 75) C dX10_gloves_164 (by decide) ?_
                          refine j_lv (lv' := [(0, _), (1, _), (2, _), (3, _), (4, _), (5, _), (6, _)]) rfl ?_
                          have h3 : (y + 3).toInt = y.toInt + 3 := by rw [i32_add] <;> simp <;> omega
                          obtain ⟨h4, rfl⟩ := gl_pos hz_147 c_150
                          rw [h15] at h4 ⊢
                          rw [hm, rnY, if_pos hc, if_pos (by rw [ecl]; exact h4), ecl] at hR
                          exact ih (i + 1) _ (n' + 1) _ (y + 3) (by omega) (by omega) ⟨hgY_n, by omega⟩ (fun c hc => by rw [hgY_f (by omega) (by omega) (by omega)]; exact hF c hc) (by omega) (Or.inr ⟨hp0, by omega⟩) (by rw [hR, show mN - (i + 1) = k' by omega])
                      · skip
                        have hc : ¬ (0 ≤ y ∧ 3 ≤ x.1 14 i_1 ∧ y ≤ x.1 14 i_1 - 3) := fun h => by simp only [Int32.lt_iff_toInt_lt, Int32.le_iff_toInt_le, ← Int32.toInt_inj, Int32.reduceToInt, e_sub, e_s3, e_sx] at h c_100; omega
                        refine j_bipush (v := -12) C dX10_gloves_103 rfl ?_
                        refine hret _ _ _ _ dX10_gloves_105 rfl ?_
                        rw [if_pos ⟨b_1, ht3, hm7⟩, nI_clamp (show i_1 < 2147483648 by omega), nI_clamp (show mN < 2147483648 by omega), if_neg (fun h => h.2 c_51), if_neg c_41, hR, hm, rnY, if_neg hc]; exact ⟨rfl, rfl⟩
              refine j_lv (lv' := [(0, _), (1, _), (2, _), (3, _), (4, _), (5, _), (6, _)]) rfl ?_
              exact L_75 (mN + 1) 0 x n 0 p (by omega) (by omega) hn (fun _ _ => rfl) (by omega) (Or.inl rfl) rfl
            · skip
              exact absurd c_63 c_41
          · skip
            refine j_bipush (v := -13) C dX10_gloves_54 rfl ?_
            refine hret _ _ _ _ dX10_gloves_56 rfl ?_
            rw [if_pos ⟨b_1, ht3, hm7⟩, nI_clamp (show i_1 < 2147483648 by omega), if_pos ⟨c_41, c_51⟩]; exact ⟨rfl, rfl⟩
      · skip
        have hm7 : ¬ (0 ≤ m ∧ m < 7) := fun h => b_26 (by simp only [Int32.lt_iff_toInt_lt, Int32.le_iff_toInt_le, ← Int32.toInt_inj, Int32.reduceToInt, Int64.lt_iff_toInt_lt, Int64.le_iff_toInt_le, Int32.toInt_toInt64, Int64.reduceToInt] at h ⊢; omega)
        refine j_if_ne (tgt := 35) C dX10_gloves_29 (by decide) (fun c => absurd (by decide) c) (fun _ => ?_)
        refine j_bipush (v := -2) C dX10_gloves_32 rfl ?_
        refine hret _ _ _ _ dX10_gloves_34 rfl ?_
        rw [if_neg (fun h => hm7 h.2.2)]; exact ⟨rfl, rfl⟩
    · skip
      have ht3 : ¬ (0 ≤ t ∧ t < 3) := fun h => b_13 (by simp only [Int32.lt_iff_toInt_lt, Int32.le_iff_toInt_le, ← Int32.toInt_inj, Int32.reduceToInt, Int64.lt_iff_toInt_lt, Int64.le_iff_toInt_le, Int32.toInt_toInt64, Int64.reduceToInt] at h ⊢; omega)
      refine j_if_eq (tgt := 32) C dX10_gloves_16 (by decide) (fun _ => ?_) (fun c => absurd (by decide) c)
      refine j_bipush (v := -2) C dX10_gloves_32 rfl ?_
      refine hret _ _ _ _ dX10_gloves_34 rfl ?_
      rw [if_neg (fun h => ht3 h.2.1)]; exact ⟨rfl, rfl⟩
  · skip
    refine j_if_eq (tgt := 32) C dX10_gloves_4 (by decide) (fun _ => ?_) (fun c => absurd (by decide) c)
    refine j_bipush (v := -2) C dX10_gloves_32 rfl ?_
    refine hret _ _ _ _ dX10_gloves_34 rfl ?_
    rw [if_neg (fun h => b_1 h.1)]; exact ⟨rfl, rfl⟩
