theorem enS_c {r r' : Nat → Int32} {p d f : Int32} (h : ∀ i, i < 5 → r i = r' i) : enS r p d f = enS r' p d f := by
  funext i; simp only [enS, h 1 (by decide), h 3 (by decide), h 4 (by decide)]
theorem laS_c {r r' : Nat → Int32} (h : ∀ i, i < 5 → r i = r' i) : laS r = laS r' := by
  simp only [laS, h 0 (by decide), h 1 (by decide)]
theorem shS_c {r r' : Nat → Int32} {v s : Int32} (h : ∀ i, i < 5 → r i = r' i) : shS r v s = shS r' v s := by
  simp only [shS, h 0 (by decide), h 1 (by decide), h 4 (by decide)]
theorem plS_c {T : Nat → List Int32} {r r' : Nat → Int32} {f : Int32} (h : ∀ i, i < 5 → r i = r' i) : ∀ d, plS T r f d = plS T r' f d
  | 0 => h 2 (by decide)
  | d + 1 => by rw [plS, plS, plS_c h d, h 0 (by decide), enS_c h]
theorem whS_c {T : Nat → List Int32} {r r' : Nat → Int32} {f : Int32} (h : ∀ i, i < 5 → r i = r' i) : whS T r f = whS T r' f := by
  funext d; rw [whS, whS, laS_c h, plS_c h]
theorem toS_c {T : Nat → List Int32} {r r' : Nat → Int32} {f p : Int32} {d : Nat} (h : ∀ i, i < 5 → r i = r' i) : toS T r f p d = toS T r' f p d := by
  rw [toS, toS, enS_c h]
theorem lkS_c {T : Nat → List Int32} {r r' : Nat → Int32} {f a b s : Int32} (h : ∀ i, i < 5 → r i = r' i) : lkS T r f a b s = lkS T r' f a b s := by
  funext d; rw [lkS, lkS, whS_c h, shS_c h, toS_c h]
theorem miS_c {T : Nat → List Int32} {r r' : Nat → Int32} {f : Int32} (h : ∀ i, i < 5 → r i = r' i) : miS T r f = miS T r' f := by
  funext d; rw [miS, miS, whS_c h, enS_c h]
-- HANG
def hgR (r : Nat → Int32) (k : Nat) : Nat → Int32 := fun i => if i = 2 then nI (k / 5) else if i = 3 then nI (k % 5) else r i
def hgV (T : Nat → List Int32) (r : Nat → Int32) (f b s : Int32) (k : Nat) : Int64 := paS (lkS T (hgR r k) f f b s) 30
def hgM (v : Nat → Int64) (n : Nat) : Int64 := if n = 0 then -1 else v (amS v n)
def hgW (v : Nat → Int64) (n : Nat) : Int32 := if n = 0 then 0 else nI (10 * (amS v n / 5) + amS v n % 5)
theorem amS_lt {v : Nat → Int64} : ∀ n, 0 < n → amS v n < n
  | 0, h => absurd h (by decide)
  | 1, _ => by simp [amS]
  | n + 2, _ => by
    have h := amS_lt (v := v) (n + 1) (by omega)
    rw [amS]; split <;> omega
theorem hg_0 {P : Nat} (hP : P ≤ 1000000000) : (-1 : Int64) < lN P := by
  rw [Int64.lt_iff_toInt_lt, lN_toInt (by omega)]
  have : (-1 : Int64).toInt = -1 := rfl
  omega
theorem hg_t {v : Nat → Int64} {n : Nat} (h : hgM v n < v n) : hgM v (n + 1) = v n ∧ hgW v (n + 1) = nI (10 * (n / 5) + n % 5) := by
  have e : amS v (n + 1) = n := by
    rw [amS]
    by_cases h0 : n = 0
    · subst h0; split <;> rfl
    · rw [hgM, if_neg h0] at h; rw [if_pos h]
  constructor
  · rw [hgM, if_neg (by omega), e]
  · rw [hgW, if_neg (by omega), e]
theorem hg_f {v : Nat → Int64} {n : Nat} (hv : ∃ P, P ≤ 1000000000 ∧ v n = lN P) (h : ¬ hgM v n < v n) : hgM v (n + 1) = hgM v n ∧ hgW v (n + 1) = hgW v n := by
  obtain ⟨P, hP, e0⟩ := hv
  have h0 : ¬ n = 0 := fun q => h (by rw [hgM, if_pos q, e0]; exact hg_0 hP)
  have e : amS v (n + 1) = amS v n := by
    rw [hgM, if_neg h0] at h
    rw [amS, if_neg h]
  constructor
  · rw [hgM, hgM, if_neg (by omega), if_neg h0, e]
  · rw [hgW, hgW, if_neg (by omega), if_neg h0, e]
theorem hgV_in {T : Nat → List Int32} {r : Nat → Int32} {f b s : Int32} {k : Nat} : ∃ P, P ≤ 1000000000 ∧ hgV T r f b s k = lN P := paS_in (fun _ => lkS_in)
-- BEST WALK
def wkV (T : Nat → List Int32) (r : Nat → Int32) (f i : Nat) : Int64 := paS (lkS T r (nI f) (nI f) (nI (i / 2)) (nI (i % 2))) 30
def wkW (T : Nat → List Int32) (r : Nat → Int32) (f i : Nat) : Int64 := wkV T r f i - 1000000 * (nI (i / 2 - f + 1)).toInt64
def wkT (T : Nat → List Int32) (r : Nat → Int32) (f i : Nat) (st : Int64 × Int64 × Int32) : Int64 × Int64 × Int32 := if st.1 < wkW T r f i then (wkW T r f i, wkV T r f i, nI (1000 * f + 10 * (i / 2) + i % 2)) else st
def wkI (T : Nat → List Int32) (r : Nat → Int32) (f : Nat) (st : Int64 × Int64 × Int32) : Nat → Int64 × Int64 × Int32
  | 0 => st
  | n + 1 => wkT T r f (2 * f + n) (wkI T r f st n)
def wkO (T : Nat → List Int32) (r : Nat → Int32) : Nat → Int64 × Int64 × Int32
  | 0 => (-4611686018427387904, 0, 0)
  | f + 1 => wkI T r f (wkO T r f) (40 - 2 * f)
-- FIRST
theorem fiS_ge {v : Nat → Int64} (hv : ∀ i, ∃ P, P ≤ 1000000000 ∧ v i = lN P) : ∀ i, (-1 : Int64) ≤ (fiS v i).1
  | 0 => show (-1 : Int64) ≤ -1 by decide
  | i + 1 => by
    rw [fiS]; split
    · obtain ⟨P, hP, e⟩ := hv i
      have h := hg_0 hP
      rw [← e] at h
      rw [Int64.lt_iff_toInt_lt] at h
      rw [Int64.le_iff_toInt_le]
      exact Int.le_of_lt h
    · exact fiS_ge hv i
-- TOLD
def osS (it wh : Nat → Int32) : Nat → Nat → Int32
  | 0, _ => -1
  | k + 1, d => if it d = wh d then osS it wh k (d + 1) else nI d
def tlS (g : Nat → Int32) : Nat → Int32
  | 0 => 0
  | i + 1 => if g i = -1 then tlS g i ||| (1 <<< (nI i &&& 31)) else tlS g i
/-- a glove, one thing of it otherwise: 1 kind, 2 number, 3 place, 4 height -/
def chR (r : Nat → Int32) (w : Int32) (v : Nat) : Nat → Int32 := fun i => if (w = 1 ∧ i = 0) ∨ (w = 2 ∧ i = 1) ∨ (w = 3 ∧ i = 2) ∨ (w = 4 ∧ i = 3) then nI v else r i
def trS (w : Int32) (t : Nat) : Nat := if w = 1 then 6 else if w = 2 then 10 else if w = 3 then 20 else if w = 4 then 5 else t

set_option maxHeartbeats 4000000 in
set_option maxRecDepth 100000 in
theorem c_X9_hang (l : Launch) (g : jG) (a : Nat → Nat) (M : (Nat → Nat → Int32)) (p : Int32) (w : Int32) (n t ru : Nat) (T : Nat → Nat → List Int32) (hX : inX M n t ru T) : Cl l g yX9_hang cX9_hang 11 6 139 0 0 (cW g a) [.ref (a 0), .int p, .int w] M (fun r z => r = (if (0 ≤ p ∧ p < M 0 1) ∧ (0 ≤ w ∧ w < 2) then (if w = 0 then (hgW (hgV (T ru) (M (28 + p.toNatClampNeg)) (M 2 0) (M 2 1) (M 2 2)) 100).toInt64 else hgM (hgV (T ru) (M (28 + p.toNatClampNeg)) (M 2 0) (M 2 1) (M 2 2)) 100) else -4611686018427387904) ∧ fkX M z) := by
  refine mk_l (by decide +kernel) rfl (fun KK hKl hKg C hin hret => ?_)
  subst hKl; subst hKg
  refine j_lv (lv' := [(0, _), (1, _), (2, _)]) rfl ?_
  have hn6 := hX.1.2
  refine j_aload_n C dX9_hang_0 rfl rfl ?_
  refine j_iload_n C dX9_hang_1 rfl rfl ?_
  refine j_callqv C (c_X9_gloveAt _ _ _ _ _ n hX.1.1 hn6) dX9_hang_2 jm_RX9_110 ⟨_, _, _, _, wO cX0, rfl, rfl⟩ ⟨by decide, by decide, by decide, by decide⟩ rfl (Nat.le_of_ble_eq_true rfl) (fun r z hz => ?_)
  obtain ⟨hb, hz⟩ := hz; have hz := hz.symm; subst hz
  rcases hb with ⟨i_2, hi_2, he_2, rfl⟩ | ⟨hno_2, rfl⟩
  · skip
    refine j_astore_n (lv' := [(3, _), (0, _), (1, _), (2, _)]) C dX9_hang_5 rfl (by decide) rfl ?_
    refine j_aload_n C dX9_hang_6 rfl rfl ?_
    refine j_ifnull C dX9_hang_7 ?_
    refine j_iload_n C dX9_hang_10 rfl rfl ?_
    refine j_iconst (v := 2) C dX9_hang_11 rfl ?_
    refine j_callis C (c_X9_isIn _ _ _ _ _ _ ) dX9_hang_12 jm_RX9_154 ⟨by decide, by decide, by decide, by decide⟩ rfl (Nat.le_of_ble_eq_true rfl) (fun r z hz => ?_)
    obtain ⟨hb, hz⟩ := hz; have hz := hz.symm; subst hz
    rcases hb with ⟨rfl, b_w⟩ | ⟨rfl, b_w⟩
    · skip
      subst he_2
      refine j_if_ne (tgt := 22) C dX9_hang_15 (by decide) (fun _ => ?_) (fun c => absurd c (by decide))
      refine j_aload_n C dX9_hang_22 rfl rfl ?_
      refine j_get C dX9_hang_23 jf_RX9_56 (wO cX0) rfl ?_
      refine j_aload_n C dX9_hang_26 rfl rfl ?_
      refine j_callvv C (c_X1_become _ _ _ _ 26 (Or.inl rfl) (28 + i_2) (isGl_h (Nat.lt_of_lt_of_le hi_2 hn6)) ) dX9_hang_27 jm_RX9_201 ⟨_, _, _, _, wO (cGl (Or.inl rfl)), rfl, rfl⟩ ⟨by decide, by decide, by decide, by decide⟩ rfl (Nat.le_of_ble_eq_true rfl) (fun z_27 hz_27 => ?_)
      obtain ⟨zf_27, zk_27⟩ := hz_27
      refine j_ldc2 C dX9_hang_30 jc_RX9_203 ?_
      refine j_lstore (lv' := [(4, _), (3, _), (0, _), (1, _), (2, _)]) C dX9_hang_33 (by decide) rfl ?_
      refine j_iconst (v := 0) C dX9_hang_35 rfl ?_
      refine j_istore (lv' := [(6, _), (4, _), (3, _), (0, _), (1, _), (2, _)]) C dX9_hang_36 (by decide) rfl ?_
      refine j_iconst (v := 0) C dX9_hang_38 rfl ?_
      refine j_istore (lv' := [(7, _), (6, _), (4, _), (3, _), (0, _), (1, _), (2, _)]) C dX9_hang_39 (by decide) rfl ?_
      have L_41 : ∀ k : Nat, ∀ (x : Nat) (M' : Nat → Nat → Int32), x ≤ 20 → 20 < x + k → (∀ k, ¬ scX k → M' k = M k) → (∀ i, i < 5 → i ≠ 2 → i ≠ 3 → M' 26 i = M (28 + i_2) i) → J KK (cW (kG KK) a) 0 0 M' [(0, .ref (a 0)), (1, .int (nI i_2)), (2, .int w), (3, .ref (a (28 + i_2))), (4, .long (hgM (hgV (T ru) (M (28 + i_2)) (M 2 0) (M 2 1) (M 2 2)) (5 * x))), (6, .int (hgW (hgV (T ru) (M (28 + i_2)) (M 2 0) (M 2 1) (M 2 2)) (5 * x))), (7, .int (nI x))] 41 [] := by
        intro k
        induction k with
        | zero => intro x M' hx hk hF hG; omega
        | succ k ih1 =>
          intro x M' hx hk hF hG
          have e_x : (nI x).toInt = x := nI_toInt (by omega)
          refine j_iload C dX9_hang_41 rfl ?_
          refine j_bipush (v := 20) C dX9_hang_43 rfl ?_
          refine j_icmp_ge (tgt := 121) C dX9_hang_45 (by decide) (fun c_2 => ?_) (fun c_2 => ?_)
          · skip
            have hx2 : x = 20 := by simp only [Int32.lt_iff_toInt_lt, Int32.le_iff_toInt_le, ← Int32.toInt_inj, Int32.reduceToInt, e_x] at c_2; omega
            subst hx2
            rw [show 5 * 20 = 100 from rfl]
            refine j_iload_n C dX9_hang_121 rfl rfl ?_
            refine j_if_ne (tgt := 131) C dX9_hang_122 (by decide) (fun c_w => ?_) (fun c_w => ?_)
            · skip
              refine j_lload C dX9_hang_131 rfl ?_
              refine hret _ _ _ _ dX9_hang_133 ?_
              refine ok_pos ⟨⟨(nI_0le hi_2 (by omega)).1, by rw [hX.1.1]; exact (nI_0le hi_2 (by omega)).2⟩, b_w⟩ ?_
              rw [nI_clamp (show i_2 < 2147483648 by omega)]
              first
                | (rw [if_pos (show w = 0 from c_w)]; exact ⟨rfl, hF⟩)
                | (rw [if_neg (show ¬ w = 0 from c_w)]; exact ⟨rfl, hF⟩)
            · skip
              refine j_iload C dX9_hang_125 rfl ?_
              refine j_i2l C dX9_hang_127 ?_
              refine j_goto (tgt := 133) C dX9_hang_128 (by decide) ?_
              refine hret _ _ _ _ dX9_hang_133 ?_
              refine ok_pos ⟨⟨(nI_0le hi_2 (by omega)).1, by rw [hX.1.1]; exact (nI_0le hi_2 (by omega)).2⟩, b_w⟩ ?_
              rw [nI_clamp (show i_2 < 2147483648 by omega)]
              first
                | (rw [if_pos (show w = 0 from c_w)]; exact ⟨rfl, hF⟩)
                | (rw [if_neg (show ¬ w = 0 from c_w)]; exact ⟨rfl, hF⟩)
          · skip
            have hx2 : x < 20 := by simp only [Int32.lt_iff_toInt_lt, Int32.le_iff_toInt_le, ← Int32.toInt_inj, Int32.reduceToInt, e_x] at c_2; omega
            refine j_iconst (v := 0) C dX9_hang_48 rfl ?_
            refine j_istore (lv' := [(8, _), (0, _), (1, _), (2, _), (3, _), (4, _), (6, _), (7, _)]) C dX9_hang_49 (by decide) rfl ?_
            have L_51 : ∀ k : Nat, ∀ (y : Nat) (M'' : Nat → Nat → Int32), y ≤ 5 → 5 < y + k → (∀ k, ¬ scX k → M'' k = M k) → (∀ i, i < 5 → i ≠ 2 → i ≠ 3 → M'' 26 i = M (28 + i_2) i) → J KK (cW (kG KK) a) 0 0 M'' [(0, .ref (a 0)), (1, .int (nI i_2)), (2, .int w), (3, .ref (a (28 + i_2))), (4, .long (hgM (hgV (T ru) (M (28 + i_2)) (M 2 0) (M 2 1) (M 2 2)) (5 * x + y))), (6, .int (hgW (hgV (T ru) (M (28 + i_2)) (M 2 0) (M 2 1) (M 2 2)) (5 * x + y))), (7, .int (nI x)), (8, .int (nI y))] 51 [] := by
              intro k
              induction k with
              | zero => intro y M'' hy hk2 hF2 hG2; omega
              | succ k ih =>
                intro y M'' hy hk2 hF2 hG2
                have e_y : (nI y).toInt = y := nI_toInt (by omega)
                refine j_iload C dX9_hang_51 rfl ?_
                refine j_iconst (v := 5) C dX9_hang_53 rfl ?_
                refine j_icmp_ge (tgt := 115) C dX9_hang_54 (by decide) (fun c_4 => ?_) (fun c_4 => ?_)
                · skip
                  have hy2 : y = 5 := by simp only [Int32.lt_iff_toInt_lt, Int32.le_iff_toInt_le, ← Int32.toInt_inj, Int32.reduceToInt, e_y] at c_4; omega
                  refine j_iinc (lv' := [(7, _), (0, _), (1, _), (2, _), (3, _), (4, _), (6, _), (8, _)]) (v := nI (x + 1)) C dX9_hang_115 rfl (j_inc1 x) (by decide) rfl ?_
                  refine j_goto (tgt := 41) C dX9_hang_118 (by decide) ?_
                  refine j_lv (lv' := [(0, _), (1, _), (2, _), (3, _), (4, _), (6, _), (7, _)]) rfl ?_
                  have hy5 : y = 5 := by omega
                  subst hy5
                  exact ih1 (x + 1) M'' (by omega) (by omega) hF2 hG2
                · skip
                  have hy2 : y < 5 := by simp only [Int32.lt_iff_toInt_lt, Int32.le_iff_toInt_le, ← Int32.toInt_inj, Int32.reduceToInt, e_y] at c_4; omega
                  refine j_aload_n C dX9_hang_57 rfl rfl ?_
                  refine j_get C dX9_hang_58 jf_RX9_56 (wO cX0) rfl ?_
                  refine j_iload C dX9_hang_61 rfl ?_
                  refine j_put C dX9_hang_63 jp_RX9_137 (wO (cGl (Or.inl rfl))) (Nat.le_of_ble_eq_true rfl) rfl rfl (sO (cGl (Or.inl rfl)) 2 _ rfl) ?_
                  refine j_aload_n C dX9_hang_66 rfl rfl ?_
                  refine j_get C dX9_hang_67 jf_RX9_56 (wO cX0) rfl ?_
                  refine j_iload C dX9_hang_70 rfl ?_
                  refine j_put C dX9_hang_72 jp_RX9_140 (wO (cGl (Or.inl rfl))) (Nat.le_of_ble_eq_true rfl) rfl rfl (sO (cGl (Or.inl rfl)) 3 _ rfl) ?_
                  refine j_aload_n C dX9_hang_75 rfl rfl ?_
                  refine j_aload_n C dX9_hang_76 rfl rfl ?_
                  refine j_get C dX9_hang_77 jf_RX9_56 (wO cX0) rfl ?_
                  refine j_bipush (v := 30) C dX9_hang_80 rfl ?_
                  refine j_calllv C (c_X9_partsOf _ _ _ _ 26 (Or.inl rfl) _ n t ru T (fkX_in hX (fun k hk => by rw [uM_ne (by intro e; subst e; exact hk (by unfold scX; omega)), uM_ne (by intro e; subst e; exact hk (by unfold scX; omega))]; exact hF2 k hk)) 30 rfl (by decide)) dX9_hang_82 jm_RX9_195 ⟨_, _, _, _, wO cX0, rfl, rfl⟩ ⟨by decide, by decide, by decide, by decide⟩ rfl (Nat.le_of_ble_eq_true rfl) (fun r_82 z_82 hz_82 => ?_)
                  obtain ⟨hr, zf_82⟩ := hz_82
                  have hv : r_82 = (hgV (T ru) (M (28 + i_2)) (M 2 0) (M 2 1) (M 2 2)) (5 * x + y) := by
                    rw [hr, uM_ne (k' := 2) (by decide), uM_ne (k' := 2) (by decide), hF2 2 (by unfold scX; omega)]
                    unfold hgV
                    rw [lkS_c (r' := hgR (M (28 + i_2)) (5 * x + y))]
                    intro i hi
                    rw [uM_all, uM_all, hgR, show (5 * x + y) / 5 = x by omega, show (5 * x + y) % 5 = y by omega]
                    by_cases h3 : i = 3
                    · subst h3; simp
                    · by_cases h2 : i = 2
                      · subst h2; simp
                      · rw [if_neg (fun q => h3 q.2), if_neg (fun q => h2 q.2), if_neg h2, if_neg h3]; exact hG2 i hi h2 h3
                  clear hr
                  refine j_lstore (lv' := [(9, _), (0, _), (1, _), (2, _), (3, _), (4, _), (6, _), (7, _), (8, _)]) C dX9_hang_85 (by decide) rfl ?_
                  refine j_lload C dX9_hang_87 rfl ?_
                  refine j_lload C dX9_hang_89 rfl ?_
                  refine j_lcmp C dX9_hang_91 ?_
                  refine j_if_le (tgt := 109) C dX9_hang_92 (by decide) (fun c_6 => ?_) (fun c_6 => ?_)
                  · rw [lg_cmp_le] at c_6
                    have hcc : ¬ hgM (hgV (T ru) (M (28 + i_2)) (M 2 0) (M 2 1) (M 2 2)) (5 * x + y) < (hgV (T ru) (M (28 + i_2)) (M 2 0) (M 2 1) (M 2 2)) (5 * x + y) := by rw [hv] at c_6; rw [Int64.lt_iff_toInt_lt] at ⊢; rw [Int64.le_iff_toInt_le] at c_6; omega
                    refine j_iinc (lv' := [(8, _), (9, _), (0, _), (1, _), (2, _), (3, _), (4, _), (6, _), (7, _)]) (v := nI (y + 1)) C dX9_hang_109 rfl (j_inc1 y) (by decide) rfl ?_
                    refine j_goto (tgt := 51) C dX9_hang_112 (by decide) ?_
                    refine j_lv (lv' := [(0, _), (1, _), (2, _), (3, _), (4, _), (6, _), (7, _), (8, _)]) rfl ?_
                    have hFz : ∀ k, ¬ scX k → z_82 k = M k := fun k hk => by rw [zf_82 k (by unfold scX at hk; omega), uM_ne (by intro e; subst e; exact hk (by unfold scX; omega)), uM_ne (by intro e; subst e; exact hk (by unfold scX; omega))]; exact hF2 k hk
                    have hGz : ∀ i, i < 5 → i ≠ 2 → i ≠ 3 → z_82 26 i = M (28 + i_2) i := fun i a b c => by rw [zf_82 26 (by omega), uM_n c, uM_n b]; exact hG2 i a b c
                    first
                      | (have hh := hg_t hcc
                         rw [hv, hw9, ← hh.1, ← hh.2]
                         exact ih (y + 1) z_82 (by omega) (by omega) hFz hGz)
                      | (have hh := hg_f hgV_in hcc
                         rw [← hh.1, ← hh.2]
                         exact ih (y + 1) z_82 (by omega) (by omega) hFz hGz)
                  · rw [lg_cmp_le] at c_6
                    have hcc : hgM (hgV (T ru) (M (28 + i_2)) (M 2 0) (M 2 1) (M 2 2)) (5 * x + y) < (hgV (T ru) (M (28 + i_2)) (M 2 0) (M 2 1) (M 2 2)) (5 * x + y) := by rw [hv] at c_6; rw [Int64.lt_iff_toInt_lt] at ⊢; rw [Int64.le_iff_toInt_le] at c_6; omega
                    refine j_lload C dX9_hang_95 rfl ?_
                    refine j_lstore (lv' := [(4, _), (9, _), (0, _), (1, _), (2, _), (3, _), (6, _), (7, _), (8, _)]) C dX9_hang_97 (by decide) rfl ?_
                    refine j_bipush (v := 10) C dX9_hang_99 rfl ?_
                    refine j_iload C dX9_hang_101 rfl ?_
                    refine j_imul C dX9_hang_103 ?_
                    refine j_iload C dX9_hang_104 rfl ?_
                    refine j_iadd C dX9_hang_106 ?_
                    have hw9 : (10 : Int32) * nI x + nI y = nI (10 * ((5 * x + y) / 5) + (5 * x + y) % 5) := by
                      rw [show (5 * x + y) / 5 = x by omega, show (5 * x + y) % 5 = y by omega]
                      exact (congrArg (· + nI y) (pk_mul 10 x)).trans (nI_add _ _)
                    refine j_istore (lv' := [(6, _), (4, _), (9, _), (0, _), (1, _), (2, _), (3, _), (7, _), (8, _)]) C dX9_hang_107 (by decide) rfl ?_
                    refine j_iinc (lv' := [(8, _), (6, _), (4, _), (9, _), (0, _), (1, _), (2, _), (3, _), (7, _)]) (v := nI (y + 1)) C dX9_hang_109 rfl (j_inc1 y) (by decide) rfl ?_
                    refine j_goto (tgt := 51) C dX9_hang_112 (by decide) ?_
                    refine j_lv (lv' := [(0, _), (1, _), (2, _), (3, _), (4, _), (6, _), (7, _), (8, _)]) rfl ?_
                    have hFz : ∀ k, ¬ scX k → z_82 k = M k := fun k hk => by rw [zf_82 k (by unfold scX at hk; omega), uM_ne (by intro e; subst e; exact hk (by unfold scX; omega)), uM_ne (by intro e; subst e; exact hk (by unfold scX; omega))]; exact hF2 k hk
                    have hGz : ∀ i, i < 5 → i ≠ 2 → i ≠ 3 → z_82 26 i = M (28 + i_2) i := fun i a b c => by rw [zf_82 26 (by omega), uM_n c, uM_n b]; exact hG2 i a b c
                    first
                      | (have hh := hg_t hcc
                         rw [hv, hw9, ← hh.1, ← hh.2]
                         exact ih (y + 1) z_82 (by omega) (by omega) hFz hGz)
                      | (have hh := hg_f hgV_in hcc
                         rw [← hh.1, ← hh.2]
                         exact ih (y + 1) z_82 (by omega) (by omega) hFz hGz)
            refine j_lv (lv' := [(0, _), (1, _), (2, _), (3, _), (4, _), (6, _), (7, _), (8, _)]) rfl ?_
            exact L_51 6 0 M' (by omega) (by omega) hF hG
      refine j_lv (lv' := [(0, _), (1, _), (2, _), (3, _), (4, _), (6, _), (7, _)]) rfl ?_
      exact L_41 21 0 z_27 (by omega) (by omega) (fun k hk => zf_27 k (by intro e; subst e; exact hk (by unfold scX; omega))) (fun i h1 _ _ => zk_27 i h1)
    · skip
      refine j_if_ne (tgt := 22) C dX9_hang_15 (by decide) (fun c => absurd (by decide) c) (fun _ => ?_)
      refine j_ldc2 C dX9_hang_18 jc_RX9_187 ?_
      refine hret _ _ _ _ dX9_hang_21 ?_
      first | exact ⟨(if_neg (fun h => hno_2 h.1)).symm, fkX_r⟩ | exact ⟨(if_neg (fun h => b_w h.2)).symm, fkX_r⟩
  · skip
    refine j_astore_nN (lv' := [(3, _), (0, _), (1, _), (2, _)]) C dX9_hang_5 rfl (by decide) rfl ?_
    refine j_aload_nN C dX9_hang_6 rfl rfl ?_
    refine j_ifnullN (tgt := 18) C dX9_hang_7 (by decide) ?_
    refine j_ldc2 C dX9_hang_18 jc_RX9_187 ?_
    refine hret _ _ _ _ dX9_hang_21 ?_
    first | exact ⟨(if_neg (fun h => hno_2 h.1)).symm, fkX_r⟩ | exact ⟨(if_neg (fun h => b_w h.2)).symm, fkX_r⟩
set_option maxHeartbeats 4000000 in
set_option maxRecDepth 100000 in
theorem c_X9_first (l : Launch) (g : jG) (a : Nat → Nat) (M : (Nat → Nat → Int32)) (q : Int32) (w : Int32) (n t ru : Nat) (T : Nat → Nat → List Int32) (hX : inX M n t ru T) : Cl l g yX9_first cX9_first 10 6 139 0 0 (cW g a) [.ref (a 0), .int q, .int w] M (fun r z => r = (if (0 ≤ q ∧ q < 31) ∧ (0 ≤ w ∧ w < 2) then (if w = 0 then (fiS (fun i => paS (lkS (T ru) (M (28 + i)) (M 2 0) (M 2 0) (M 2 1) (M 2 2)) q.toNatClampNeg) n).2.toInt64 else (fiS (fun i => paS (lkS (T ru) (M (28 + i)) (M 2 0) (M 2 0) (M 2 1) (M 2 2)) q.toNatClampNeg) n).1) else -4611686018427387904) ∧ fkX M z) := by
  refine mk_l (by decide +kernel) rfl (fun KK hKl hKg C hin hret => ?_)
  subst hKl; subst hKg
  refine j_lv (lv' := [(0, _), (1, _), (2, _)]) rfl ?_
  have hn6 := hX.1.2
  refine j_iload_n C dX9_first_0 rfl rfl ?_
  refine j_bipush (v := 31) C dX9_first_1 rfl ?_
  refine j_callis C (c_X9_isIn _ _ _ _ _ _ ) dX9_first_3 jm_RX9_154 ⟨by decide, by decide, by decide, by decide⟩ rfl (Nat.le_of_ble_eq_true rfl) (fun r z hz => ?_)
  obtain ⟨hb, hz⟩ := hz; have hz := hz.symm; subst hz
  rcases hb with ⟨rfl, b_q⟩ | ⟨rfl, b_q⟩
  · skip
    obtain ⟨qn, hq, rfl⟩ := in_of (B := 31) b_q rfl
    refine j_if_eq (tgt := 17) C dX9_first_6 (by decide) (fun c => absurd c (by decide)) (fun _ => ?_)
    refine j_iload_n C dX9_first_9 rfl rfl ?_
    refine j_iconst (v := 2) C dX9_first_10 rfl ?_
    refine j_callis C (c_X9_isIn _ _ _ _ _ _ ) dX9_first_11 jm_RX9_154 ⟨by decide, by decide, by decide, by decide⟩ rfl (Nat.le_of_ble_eq_true rfl) (fun r z hz => ?_)
    obtain ⟨hb, hz⟩ := hz; have hz := hz.symm; subst hz
    rcases hb with ⟨rfl, b_w⟩ | ⟨rfl, b_w⟩
    · skip
      refine j_if_ne (tgt := 21) C dX9_first_14 (by decide) (fun _ => ?_) (fun c => absurd c (by decide))
      refine j_ldc2 C dX9_first_21 jc_RX9_203 ?_
      refine j_lstore_n (lv' := [(3, _), (0, _), (1, _), (2, _)]) C dX9_first_24 rfl (by decide) rfl ?_
      refine j_iconst (v := -1) C dX9_first_25 rfl ?_
      refine j_istore (lv' := [(5, _), (3, _), (0, _), (1, _), (2, _)]) C dX9_first_26 (by decide) rfl ?_
      refine j_iconst (v := 0) C dX9_first_28 rfl ?_
      refine j_istore (lv' := [(6, _), (5, _), (3, _), (0, _), (1, _), (2, _)]) C dX9_first_29 (by decide) rfl ?_
      have L_31 : ∀ k : Nat, ∀ (i : Nat) (M' : Nat → Nat → Int32), i ≤ 6 → 6 < i + k → (fkX M M') → J KK (cW (kG KK) a) 0 0 M' [(0, .ref (a 0)), (1, .int (nI qn)), (2, .int w), (3, .long (fiS (fun i => paS (lkS (T ru) (M (28 + i)) (M 2 0) (M 2 0) (M 2 1) (M 2 2)) qn) (if i ≤ n then i else n)).1), (5, .int (fiS (fun i => paS (lkS (T ru) (M (28 + i)) (M 2 0) (M 2 0) (M 2 1) (M 2 2)) qn) (if i ≤ n then i else n)).2), (6, .int (nI i))] 31 [] := by
        intro k
        induction k with
        | zero => intro i M' hi hk hF; omega
        | succ k ih =>
          intro i M' hi hk hF
          have e_i : (nI i).toInt = i := nI_toInt (by omega); have e_n : (nI n).toInt = n := nI_toInt (by omega)
          have hX2 := fkX_in hX hF
          refine j_iload C dX9_first_31 rfl ?_
          refine j_bipush (v := 6) C dX9_first_33 rfl ?_
          refine j_icmp_ge (tgt := 86) C dX9_first_35 (by decide) (fun c_3 => ?_) (fun c_3 => ?_)
          · skip
            have hd : i = 6 := by simp only [Int32.lt_iff_toInt_lt, Int32.le_iff_toInt_le, ← Int32.toInt_inj, Int32.reduceToInt, e_i] at c_3; omega
            subst hd
            have e1 : (if 6 ≤ n then 6 else n) = n := by split <;> omega
            rw [e1]
            refine j_iload_n C dX9_first_86 rfl rfl ?_
            refine j_if_ne (tgt := 96) C dX9_first_87 (by decide) (fun c_w => ?_) (fun c_w => ?_)
            · skip
              refine j_lload_n C dX9_first_96 rfl rfl ?_
              refine hret _ _ _ _ dX9_first_97 ?_
              rw [if_pos ⟨⟨(nI_0le hq (by omega)).1, (nI_0le (n := 31) hq (by decide)).2⟩, b_w⟩, nI_clamp (show qn < 2147483648 by omega)]
              first
                | (rw [if_pos (show w = 0 from c_w)]; exact ⟨rfl, hF⟩)
                | (rw [if_neg (show ¬ w = 0 from c_w)]; exact ⟨rfl, hF⟩)
            · skip
              refine j_iload C dX9_first_90 rfl ?_
              refine j_i2l C dX9_first_92 ?_
              refine j_goto (tgt := 97) C dX9_first_93 (by decide) ?_
              refine hret _ _ _ _ dX9_first_97 ?_
              rw [if_pos ⟨⟨(nI_0le hq (by omega)).1, (nI_0le (n := 31) hq (by decide)).2⟩, b_w⟩, nI_clamp (show qn < 2147483648 by omega)]
              first
                | (rw [if_pos (show w = 0 from c_w)]; exact ⟨rfl, hF⟩)
                | (rw [if_neg (show ¬ w = 0 from c_w)]; exact ⟨rfl, hF⟩)
          · skip
            have hd : i < 6 := by simp only [Int32.lt_iff_toInt_lt, Int32.le_iff_toInt_le, ← Int32.toInt_inj, Int32.reduceToInt, e_i] at c_3; omega
            refine j_aload_n C dX9_first_38 rfl rfl ?_
            refine j_iload C dX9_first_39 rfl ?_
            refine j_callqv C (c_X9_gloveAt _ _ _ _ _ n hX2.1.1 hn6) dX9_first_41 jm_RX9_110 ⟨_, _, _, _, wO cX0, rfl, rfl⟩ ⟨by decide, by decide, by decide, by decide⟩ rfl (Nat.le_of_ble_eq_true rfl) (fun r z hz => ?_)
            obtain ⟨hb, hz⟩ := hz; have hz := hz.symm; subst hz
            rcases hb with ⟨i_41, hi_41, he_41, rfl⟩ | ⟨hno_41, rfl⟩
            · skip
              refine j_astore (lv' := [(7, _), (0, _), (1, _), (2, _), (3, _), (5, _), (6, _)]) C dX9_first_44 (by decide) rfl ?_
              refine j_aload C dX9_first_46 rfl ?_
              refine j_ifnonnull (tgt := 57) C dX9_first_48 (by decide) ?_
              refine j_aload_n C dX9_first_57 rfl rfl ?_
              refine j_aload C dX9_first_58 rfl ?_
              refine j_iload_n C dX9_first_60 rfl rfl ?_
              refine j_calllv C (c_X9_partsOf _ _ _ _ (28 + i_41) (isGl_h (Nat.lt_of_lt_of_le hi_41 hn6)) _ n t ru T hX2 qn rfl (by omega)) dX9_first_61 jm_RX9_195 ⟨_, _, _, _, wO cX0, rfl, rfl⟩ ⟨by decide, by decide, by decide, by decide⟩ rfl (Nat.le_of_ble_eq_true rfl) (fun r_61 z_61 hz_61 => ?_)
              obtain ⟨hr, zf_61⟩ := hz_61
              have hii : i = i_41 := by
                have := congrArg Int32.toInt he_41; rw [e_i, nI_toInt (by omega)] at this; omega
              subst hii
              have hv : r_61 = (fun i => paS (lkS (T ru) (M (28 + i)) (M 2 0) (M 2 0) (M 2 1) (M 2 2)) qn) i := by
                rw [hr, hF 2 (by unfold scX; omega), hF (28 + i) (by unfold scX; omega)]
              clear hr
              refine j_lstore (lv' := [(8, _), (7, _), (0, _), (1, _), (2, _), (3, _), (5, _), (6, _)]) C dX9_first_64 (by decide) rfl ?_
              refine j_lload C dX9_first_66 rfl ?_
              refine j_lload_n C dX9_first_68 rfl rfl ?_
              refine j_lcmp C dX9_first_69 ?_
              refine j_if_le (tgt := 80) C dX9_first_70 (by decide) (fun c_70 => ?_) (fun c_70 => ?_)
              · rw [lg_cmp_le] at c_70
                refine j_iinc (lv' := [(6, _), (8, _), (7, _), (0, _), (1, _), (2, _), (3, _), (5, _)]) (v := nI (i + 1)) C dX9_first_80 rfl (j_inc1 i) (by decide) rfl ?_
                refine j_goto (tgt := 31) C dX9_first_83 (by decide) ?_
                refine j_lv (lv' := [(0, _), (1, _), (2, _), (3, _), (5, _), (6, _)]) rfl ?_
                have hin : i < n := hi_41
                have e1 : (if i ≤ n then i else n) = i := if_pos (by omega)
                have e2 : (if i + 1 ≤ n then i + 1 else n) = i + 1 := if_pos (by omega)
                rw [e1] at c_70
                try rw [e1]
                have h9 := ih (i + 1) z_61 (by omega) (by omega) (fkX_t hF (fun k hk => zf_61 k (by unfold scX at hk; omega)))
                rw [e2, fiS] at h9
                rw [hv] at c_70
                try rw [hv]
                try dsimp only at c_70
                try dsimp only at h9
                try dsimp only
                rw [Int64.le_iff_toInt_le] at c_70
                first
                  | (rw [if_pos (by rw [Int64.lt_iff_toInt_lt]; omega)] at h9; exact h9)
                  | (rw [if_neg (by rw [Int64.lt_iff_toInt_lt]; omega)] at h9; exact h9)
              · rw [lg_cmp_le] at c_70
                refine j_lload C dX9_first_73 rfl ?_
                refine j_lstore_n (lv' := [(3, _), (8, _), (7, _), (0, _), (1, _), (2, _), (5, _), (6, _)]) C dX9_first_75 rfl (by decide) rfl ?_
                refine j_iload C dX9_first_76 rfl ?_
                refine j_istore (lv' := [(5, _), (3, _), (8, _), (7, _), (0, _), (1, _), (2, _), (6, _)]) C dX9_first_78 (by decide) rfl ?_
                refine j_iinc (lv' := [(6, _), (5, _), (3, _), (8, _), (7, _), (0, _), (1, _), (2, _)]) (v := nI (i + 1)) C dX9_first_80 rfl (j_inc1 i) (by decide) rfl ?_
                refine j_goto (tgt := 31) C dX9_first_83 (by decide) ?_
                refine j_lv (lv' := [(0, _), (1, _), (2, _), (3, _), (5, _), (6, _)]) rfl ?_
                have hin : i < n := hi_41
                have e1 : (if i ≤ n then i else n) = i := if_pos (by omega)
                have e2 : (if i + 1 ≤ n then i + 1 else n) = i + 1 := if_pos (by omega)
                rw [e1] at c_70
                try rw [e1]
                have h9 := ih (i + 1) z_61 (by omega) (by omega) (fkX_t hF (fun k hk => zf_61 k (by unfold scX at hk; omega)))
                rw [e2, fiS] at h9
                rw [hv] at c_70
                try rw [hv]
                try dsimp only at c_70
                try dsimp only at h9
                try dsimp only
                rw [Int64.le_iff_toInt_le] at c_70
                first
                  | (rw [if_pos (by rw [Int64.lt_iff_toInt_lt]; omega)] at h9; exact h9)
                  | (rw [if_neg (by rw [Int64.lt_iff_toInt_lt]; omega)] at h9; exact h9)
            · skip
              refine j_astoreN (lv' := [(7, _), (0, _), (1, _), (2, _), (3, _), (5, _), (6, _)]) C dX9_first_44 (by decide) rfl ?_
              refine j_aloadN C dX9_first_46 rfl ?_
              refine j_ifnonnullN C dX9_first_48 ?_
              refine j_ldc2 C dX9_first_51 jc_RX9_203 ?_
              refine j_goto (tgt := 64) C dX9_first_54 (by decide) ?_
              refine j_lstore (lv' := [(8, _), (7, _), (0, _), (1, _), (2, _), (3, _), (5, _), (6, _)]) C dX9_first_64 (by decide) rfl ?_
              refine j_lload C dX9_first_66 rfl ?_
              refine j_lload_n C dX9_first_68 rfl rfl ?_
              refine j_lcmp C dX9_first_69 ?_
              refine j_if_le (tgt := 80) C dX9_first_70 (by decide) (fun c_70 => ?_) (fun c_70 => ?_)
              · rw [lg_cmp_le] at c_70
                refine j_iinc (lv' := [(6, _), (8, _), (7, _), (0, _), (1, _), (2, _), (3, _), (5, _)]) (v := nI (i + 1)) C dX9_first_80 rfl (j_inc1 i) (by decide) rfl ?_
                refine j_goto (tgt := 31) C dX9_first_83 (by decide) ?_
                refine j_lv (lv' := [(0, _), (1, _), (2, _), (3, _), (5, _), (6, _)]) rfl ?_
                first
                  | exact absurd (fiS_ge (fun i => paS_in (fun _ => lkS_in)) _) c_70
                  | (have hin : n ≤ i := by
                       rw [hX2.1.1] at hno_41; simp only [Int32.lt_iff_toInt_lt, Int32.le_iff_toInt_le, ← Int32.toInt_inj, Int32.reduceToInt, e_i, e_n] at hno_41; omega
                     have e1 : (if i ≤ n then i else n) = n := by split <;> omega
                     have e2 : (if i + 1 ≤ n then i + 1 else n) = n := by split <;> omega
                     rw [e1]
                     have h9 := ih (i + 1) M' (by omega) (by omega) hF
                     rw [e2] at h9
                     exact h9)
              · rw [lg_cmp_le] at c_70
                refine j_lload C dX9_first_73 rfl ?_
                refine j_lstore_n (lv' := [(3, _), (8, _), (7, _), (0, _), (1, _), (2, _), (5, _), (6, _)]) C dX9_first_75 rfl (by decide) rfl ?_
                refine j_iload C dX9_first_76 rfl ?_
                refine j_istore (lv' := [(5, _), (3, _), (8, _), (7, _), (0, _), (1, _), (2, _), (6, _)]) C dX9_first_78 (by decide) rfl ?_
                refine j_iinc (lv' := [(6, _), (5, _), (3, _), (8, _), (7, _), (0, _), (1, _), (2, _)]) (v := nI (i + 1)) C dX9_first_80 rfl (j_inc1 i) (by decide) rfl ?_
                refine j_goto (tgt := 31) C dX9_first_83 (by decide) ?_
                refine j_lv (lv' := [(0, _), (1, _), (2, _), (3, _), (5, _), (6, _)]) rfl ?_
                first
                  | exact absurd (fiS_ge (fun i => paS_in (fun _ => lkS_in)) _) c_70
                  | (have hin : n ≤ i := by
                       rw [hX2.1.1] at hno_41; simp only [Int32.lt_iff_toInt_lt, Int32.le_iff_toInt_le, ← Int32.toInt_inj, Int32.reduceToInt, e_i, e_n] at hno_41; omega
                     have e1 : (if i ≤ n then i else n) = n := by split <;> omega
                     have e2 : (if i + 1 ≤ n then i + 1 else n) = n := by split <;> omega
                     rw [e1]
                     have h9 := ih (i + 1) M' (by omega) (by omega) hF
                     rw [e2] at h9
                     exact h9)
      refine j_lv (lv' := [(0, _), (1, _), (2, _), (3, _), (5, _), (6, _)]) rfl ?_
      exact L_31 7 0 M (by omega) (by omega) fkX_r
    · skip
      refine j_if_ne (tgt := 21) C dX9_first_14 (by decide) (fun c => absurd (by decide) c) (fun _ => ?_)
      refine j_ldc2 C dX9_first_17 jc_RX9_187 ?_
      refine hret _ _ _ _ dX9_first_20 ?_
      first | exact ⟨(if_neg (fun h => b_q h.1)).symm, fkX_r⟩ | exact ⟨(if_neg (fun h => b_w h.2)).symm, fkX_r⟩
  · skip
    refine j_if_eq (tgt := 17) C dX9_first_6 (by decide) (fun _ => ?_) (fun c => absurd (by decide) c)
    refine j_ldc2 C dX9_first_17 jc_RX9_187 ?_
    refine hret _ _ _ _ dX9_first_20 ?_
    first | exact ⟨(if_neg (fun h => b_q h.1)).symm, fkX_r⟩ | exact ⟨(if_neg (fun h => b_w h.2)).symm, fkX_r⟩
