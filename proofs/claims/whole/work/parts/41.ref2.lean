/-- a glove as the reference has it -/
abbrev gV (x : mS) (i : Nat) : Nat → Int32 := fun j => if j = 0 then x.1 5 i else x.1 6 (4 * i + (j - 1))
def lyX (x : mS) (j i : Nat) (v : Int32) : mS := if j < 3 then mU x 4 j v else if j < 7 then mU x 6 (4 * i + (j - 3)) v else if j = 7 then mU x 5 i v else mU x 0 4 v
def hgY (x : mS) (n : Nat) (k m p : Int32) : mS := mU (mU (mU (mU (mU (mU x 5 n k) 6 (4 * n) m) 6 (4 * n + 1) p) 6 (4 * n + 2) 2) 6 (4 * n + 3) 0) 0 10 (nI (n + 1))

set_option maxHeartbeats 4000000 in
set_option maxRecDepth 100000 in
theorem c_X10_lays (l : Launch) (g : jG) (a : Nat → Nat) (x : mS) (w : Int32) (o : Int32) (v : Int32) (j i : Nat) (hw : w = nI j) (hj : j < 10) (ho : 3 ≤ j → o = nI i) (hi : i < 6) : Cv l g yX10_lays cX10_lays 4 0 0 0 0 (mW g a) [.ref (a 0), .int w, .int o, .int v] x (fun z => z = lyX x j i v) := by
  refine mk_v (by decide +kernel) rfl (fun KK hKl hKg C hin hret => ?_)
  subst hKl; subst hKg
  refine j_lv (lv' := [(0, _), (1, _), (2, _), (3, _)]) rfl ?_
  subst hw
  have e_j : (nI j).toInt = j := nI_toInt (by omega)
  refine j_iload_n C dX10_lays_0 rfl rfl ?_
  refine j_iconst (v := 3) C dX10_lays_1 rfl ?_
  refine j_icmp_ge (tgt := 15) C dX10_lays_2 (by decide) (fun c_2 => ?_) (fun c_2 => ?_)
  · skip
    have hj3 : ¬ j < 3 := by simp only [Int32.lt_iff_toInt_lt, Int32.le_iff_toInt_le, ← Int32.toInt_inj, Int32.reduceToInt, e_j] at c_2; omega
    have ho := ho (by omega)
    subst ho
    refine j_iload_n C dX10_lays_15 rfl rfl ?_
    refine j_bipush (v := 7) C dX10_lays_16 rfl ?_
    refine j_icmp_ge (tgt := 37) C dX10_lays_18 (by decide) (fun c_18 => ?_) (fun c_18 => ?_)
    · skip
      have hj7 : ¬ j < 7 := by simp only [Int32.lt_iff_toInt_lt, Int32.le_iff_toInt_le, ← Int32.toInt_inj, Int32.reduceToInt, e_j] at c_18; omega
      refine j_iload_n C dX10_lays_37 rfl rfl ?_
      refine j_bipush (v := 7) C dX10_lays_38 rfl ?_
      refine j_icmp_ne (tgt := 53) C dX10_lays_40 (by decide) (fun c_40 => ?_) (fun c_40 => ?_)
      · skip
        have hj8 : ¬ j = 7 := fun h => c_40 (by rw [h]; rfl)
        refine j_aload_n C dX10_lays_53 rfl rfl ?_
        refine j_iload_n C dX10_lays_54 rfl rfl ?_
        refine j_put C dX10_lays_55 jp_RX10_95 (wO mO) (Nat.le_of_ble_eq_true rfl) rfl rfl (sMo 4 _ rfl) ?_
        refine hret _ _ _ dX10_lays_58 ?_
        first | (unfold lyX; rw [if_pos hj3]; done) | (unfold lyX; rw [if_neg hj3, if_pos hj7]; done) | (unfold lyX; rw [if_neg hj3, if_neg hj7, if_pos hj8]; done) | (unfold lyX; rw [if_neg hj3, if_neg hj7, if_neg hj8]; done)
      · skip
        have hj8 : j = 7 := by have := congrArg Int32.toInt c_40; simp only [e_j, Int32.reduceToInt] at this; omega
        refine j_aload_n C dX10_lays_43 rfl rfl ?_
        refine j_get C dX10_lays_44 jf_RX10_26 (wO mO) rfl ?_
        refine j_iload_n C dX10_lays_47 rfl rfl ?_
        refine j_iload_n C dX10_lays_48 rfl rfl ?_
        refine j_iast C (i) dX10_lays_49 (wA mA5) (rfl) (hi) (by decide) (sMa mA5 _ _) ?_
        refine j_goto (tgt := 58) C dX10_lays_50 (by decide) ?_
        refine hret _ _ _ dX10_lays_58 ?_
        first | (unfold lyX; rw [if_pos hj3]; done) | (unfold lyX; rw [if_neg hj3, if_pos hj7]; done) | (unfold lyX; rw [if_neg hj3, if_neg hj7, if_pos hj8]; done) | (unfold lyX; rw [if_neg hj3, if_neg hj7, if_neg hj8]; done)
    · skip
      have hj7 : j < 7 := by simp only [Int32.lt_iff_toInt_lt, Int32.le_iff_toInt_le, ← Int32.toInt_inj, Int32.reduceToInt, e_j] at c_18; omega
      refine j_aload_n C dX10_lays_21 rfl rfl ?_
      refine j_get C dX10_lays_22 jf_RX10_29 (wO mO) rfl ?_
      refine j_iconst (v := 4) C dX10_lays_25 rfl ?_
      refine j_iload_n C dX10_lays_26 rfl rfl ?_
      refine j_imul C dX10_lays_27 ?_
      refine j_iload_n C dX10_lays_28 rfl rfl ?_
      refine j_iadd C dX10_lays_29 ?_
      refine j_iconst (v := 3) C dX10_lays_30 rfl ?_
      refine j_isub C dX10_lays_31 ?_
      refine j_iload_n C dX10_lays_32 rfl rfl ?_
      refine j_iast C (4 * i + (j - 3)) dX10_lays_33 (wA mA6) (by
            have e1 : (4 : Int32) * nI i = nI (4 * i) := pk_mul 4 i
            rw [e1, nI_add]
            exact (pk_sub (b := 3) (by omega)).trans (congrArg nI (by omega))) (by omega) (by decide) (sMa mA6 _ _) ?_
      refine j_goto (tgt := 58) C dX10_lays_34 (by decide) ?_
      refine hret _ _ _ dX10_lays_58 ?_
      first | (unfold lyX; rw [if_pos hj3]; done) | (unfold lyX; rw [if_neg hj3, if_pos hj7]; done) | (unfold lyX; rw [if_neg hj3, if_neg hj7, if_pos hj8]; done) | (unfold lyX; rw [if_neg hj3, if_neg hj7, if_neg hj8]; done)
  · skip
    have hj3 : j < 3 := by simp only [Int32.lt_iff_toInt_lt, Int32.le_iff_toInt_le, ← Int32.toInt_inj, Int32.reduceToInt, e_j] at c_2; omega
    refine j_aload_n C dX10_lays_5 rfl rfl ?_
    refine j_get C dX10_lays_6 jf_RX10_23 (wO mO) rfl ?_
    refine j_iload_n C dX10_lays_9 rfl rfl ?_
    refine j_iload_n C dX10_lays_10 rfl rfl ?_
    refine j_iast C (j) dX10_lays_11 (wA mA4) (rfl) (hj3) (by decide) (sMa mA4 _ _) ?_
    refine j_goto (tgt := 58) C dX10_lays_12 (by decide) ?_
    refine hret _ _ _ dX10_lays_58 ?_
    first | (unfold lyX; rw [if_pos hj3]; done) | (unfold lyX; rw [if_neg hj3, if_pos hj7]; done) | (unfold lyX; rw [if_neg hj3, if_neg hj7, if_pos hj8]; done) | (unfold lyX; rw [if_neg hj3, if_neg hj7, if_neg hj8]; done)
