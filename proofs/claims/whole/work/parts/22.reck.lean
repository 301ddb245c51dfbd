theorem j_top {S : Type} {K : jK} {wd : S → va_W} {ca sl : Nat} {x : S} {lv : List (Nat × Value)} {pc : Nat} {st : List Value} {v v' : Value} (h : v = v') (k : J K wd ca sl x lv pc (v' :: st)) : J K wd ca sl x lv pc (v :: st) := h ▸ k
theorem j_st {S : Type} {K : jK} {wd : S → va_W} {ca sl : Nat} {x y : S} {lv : List (Nat × Value)} {pc : Nat} {st : List Value} (h : x = y) (k : J K wd ca sl y lv pc st) : J K wd ca sl x lv pc st := h ▸ k
theorem vint {x y : Int32} (h : x = y) : Value.int x = Value.int y := h ▸ rfl
/-- the reckoner's stack holds s -/
def skR (M : Nat → Nat → Int32) (s : List Int32) : Prop := M 24 1 = nI s.length ∧ s.length ≤ 160 ∧ ∀ i, i < s.length → M 25 i = s.getD (s.length - 1 - i) 0
/-- nothing else is new but the reckoner's stack -/
def rkF (M z : Nat → Nat → Int32) : Prop := (∀ k, k ≠ 24 → k ≠ 25 → z k = M k) ∧ ∀ i, i ≠ 1 → z 24 i = M 24 i
theorem rkF_r {M : Nat → Nat → Int32} : rkF M M := ⟨fun _ _ _ => rfl, fun _ _ => rfl⟩
theorem rkF_t {M N z : Nat → Nat → Int32} (h : rkF M N) (h2 : rkF N z) : rkF M z := ⟨fun k a b => (h2.1 k a b).trans (h.1 k a b), fun i a => (h2.2 i a).trans (h.2 i a)⟩
theorem skR_push {M : Nat → Nat → Int32} {s : List Int32} {v : Int32} (h : skR M s) (hl : s.length < 160) : skR (uM (uM M 25 s.length v) 24 1 (nI (s.length + 1))) (v :: s) := by
  refine ⟨by rw [uM_s]; rfl, by simp; omega, fun i hi => ?_⟩
  rw [uM_ne (by decide)]
  simp only [List.length_cons] at hi ⊢
  by_cases e : i = s.length
  · subst e; rw [uM_s]; simp
  · rw [uM_n e, h.2.2 i (by omega)]
    have : s.length + 1 - 1 - i = (s.length - 1 - i) + 1 := by omega
    rw [this]; simp
theorem skR_pop {M : Nat → Nat → Int32} {s : List Int32} {v : Int32} (h : skR M (v :: s)) : skR (uM M 24 1 (nI s.length)) s ∧ M 25 s.length = v := by
  obtain ⟨h1, h2, h3⟩ := h
  simp only [List.length_cons] at h1 h2 h3
  refine ⟨⟨by rw [uM_s], by omega, fun i hi => ?_⟩, ?_⟩
  · rw [uM_ne (by decide), h3 i (by omega)]
    have : s.length + 1 - 1 - i = (s.length - 1 - i) + 1 := by omega
    rw [this]; simp
  · rw [h3 s.length (by omega)]; simp
/-- the text in cell K is T, part by part -/
def txR (M : Nat → Nat → Int32) (K : Nat) (T : Nat → List Int32) : Prop := ∃ e : Nat → Nat, e 0 = 0 ∧ e 0 ≤ e 1 ∧ e 1 ≤ e 2 ∧ e 2 ≤ e 3 ∧ e 3 ≤ 160 ∧ ∀ q, q < 3 → M (K + 2) q = nI (e (q + 1)) ∧ T q = slS (M (K + 1)) (e q) (e (q + 1))
theorem txR_c {M N : Nat → Nat → Int32} {K : Nat} {T : Nat → List Int32} (h : txR M K T) (h1 : N (K + 1) = M (K + 1)) (h2 : N (K + 2) = M (K + 2)) : txR N K T := by
  obtain ⟨e, h3⟩ := h
  exact ⟨e, by rw [h1, h2]; exact h3⟩
theorem nmS_c {e e' : Nat → Int32} {n : Int32} (h : ∀ i, 2 ≤ i → i < 8 → e i = e' i) : nmS e n = nmS e' n := by
  unfold nmS
  rw [h 2 (by decide) (by decide), h 3 (by decide) (by decide), h 4 (by decide) (by decide), h 5 (by decide) (by decide), h 6 (by decide) (by decide), h 7 (by decide) (by decide)]
theorem Gl24 {k : Nat} (h : isGl k) : k ≠ 24 ∧ k ≠ 25 ∧ k ≠ 21 ∧ k ≠ 22 ∧ k ≠ 23 := by unfold isGl at h; omega
theorem Tx24 {k : Nat} (h : isTx k) : 34 ≤ k ∧ k < 52 := by unfold isTx at h; omega
theorem Wk24 {k : Nat} (h : isWk k) : k ≠ 24 ∧ k ≠ 25 ∧ k ≠ 21 ∧ k ≠ 22 ∧ k ≠ 23 := by unfold isWk at h; omega
theorem it_neg {i : Int32} (h : -6 ≤ i) (h2 : i < 0) : True := trivial

set_option maxHeartbeats 4000000 in
set_option maxRecDepth 100000 in
theorem c_X7_begin (l : Launch) (g : jG) (a : Nat → Nat) (M : (Nat → Nat → Int32)) (K : Nat) (hK : isTx K)  : Cv l g yX7_begin cX7_begin 1 0 0 0 0 (cW g a) [.ref (a K)] M (fun z => z = uM M K 2 0) := by
  refine mk_v (by decide +kernel) rfl (fun KK hKl hKg C hin hret => ?_)
  subst hKl; subst hKg
  refine j_lv (lv' := [(0, _)]) rfl ?_
  refine j_aload_n C dX7_begin_0 rfl rfl ?_
  refine j_iconst (v := 0) C dX7_begin_1 rfl ?_
  refine j_put C dX7_begin_2 jp_RX7_18 (wO (cTx hK)) (Nat.le_of_ble_eq_true rfl) rfl rfl (sO (cTx hK) 2 _ rfl) ?_
  refine hret _ _ _ dX7_begin_5 ?_
  exact rfl
set_option maxHeartbeats 4000000 in
set_option maxRecDepth 100000 in
theorem c_X7_keep (l : Launch) (g : jG) (a : Nat → Nat) (M : (Nat → Nat → Int32)) (K : Nat) (hK : isTx K) (v : Int32) (n : Nat) (hn : M K 2 = nI n) (hn2 : n ≤ 160) : Cv l g yX7_keep cX7_keep 2 0 0 0 0 (cW g a) [.ref (a K), .int v] M (fun z => z = if n < 160 then uM (uM M (K + 1) n v) K 2 (nI (n + 1)) else M) := by
  refine mk_v (by decide +kernel) rfl (fun KK hKl hKg C hin hret => ?_)
  subst hKl; subst hKg
  refine j_lv (lv' := [(0, _), (1, _)]) rfl ?_
  have e_n : (nI n).toInt = n := nI_toInt (by omega)
  refine j_aload_n C dX7_keep_0 rfl rfl ?_
  refine j_get C dX7_keep_1 jf_RX7_18 (wO (cTx hK)) rfl ?_
  refine j_if_lt (tgt := 39) C dX7_keep_4 (by decide) (fun c_1 => ?_) (fun c_1 => ?_)
  · skip
    exact absurd c_1 (by rw [hn]; exact nI_pos (by omega))
  · skip
    refine j_aload_n C dX7_keep_7 rfl rfl ?_
    refine j_get C dX7_keep_8 jf_RX7_18 (wO (cTx hK)) rfl ?_
    refine j_aload_n C dX7_keep_11 rfl rfl ?_
    refine j_get C dX7_keep_12 jf_RX7_9 (wO (cTx hK)) rfl ?_
    refine j_alen (v := 160) C dX7_keep_15 (wA (cTxR hK)) gty_0 rfl ?_
    refine j_icmp_ge (tgt := 39) C dX7_keep_16 (by decide) (fun c_2 => ?_) (fun c_2 => ?_)
    · skip
      refine hret _ _ _ dX7_keep_39 ?_
      first
        | (have h : ¬ n < 160 := by rw [hn] at c_2; simp only [Int32.lt_iff_toInt_lt, Int32.le_iff_toInt_le, ← Int32.toInt_inj, Int32.reduceToInt, e_n] at c_2; omega
           exact (if_neg h).symm)
        | (have h : n < 160 := by rw [hn] at c_2; simp only [Int32.lt_iff_toInt_lt, Int32.le_iff_toInt_le, ← Int32.toInt_inj, Int32.reduceToInt, e_n] at c_2; omega
           rw [if_pos h, uM_ne (show K ≠ K + 1 by omega), hn, nI_1])
    · skip
      refine j_aload_n C dX7_keep_19 rfl rfl ?_
      refine j_get C dX7_keep_20 jf_RX7_9 (wO (cTx hK)) rfl ?_
      refine j_aload_n C dX7_keep_23 rfl rfl ?_
      refine j_get C dX7_keep_24 jf_RX7_18 (wO (cTx hK)) rfl ?_
      refine j_iload_n C dX7_keep_27 rfl rfl ?_
      refine j_iast C (n) dX7_keep_28 (wA (cTxR hK)) (hn) (by rw [hn] at c_2; simp only [Int32.lt_iff_toInt_lt, Int32.le_iff_toInt_le, ← Int32.toInt_inj, Int32.reduceToInt, e_n] at c_2; omega) (by decide) (sA (cTxR hK) _ _) ?_
      refine j_aload_n C dX7_keep_29 rfl rfl ?_
      refine j_dup C dX7_keep_30 rfl ?_
      refine j_get C dX7_keep_31 jf_RX7_18 (wO (cTx hK)) rfl ?_
      refine j_iconst (v := 1) C dX7_keep_34 rfl ?_
      refine j_iadd C dX7_keep_35 ?_
      refine j_put C dX7_keep_36 jp_RX7_18 (wO (cTx hK)) (Nat.le_of_ble_eq_true rfl) rfl rfl (sO (cTx hK) 2 _ rfl) ?_
      refine hret _ _ _ dX7_keep_39 ?_
      first
        | (have h : ¬ n < 160 := by rw [hn] at c_2; simp only [Int32.lt_iff_toInt_lt, Int32.le_iff_toInt_le, ← Int32.toInt_inj, Int32.reduceToInt, e_n] at c_2; omega
           exact (if_neg h).symm)
        | (have h : n < 160 := by rw [hn] at c_2; simp only [Int32.lt_iff_toInt_lt, Int32.le_iff_toInt_le, ← Int32.toInt_inj, Int32.reduceToInt, e_n] at c_2; omega
           rw [if_pos h, uM_ne (show K ≠ K + 1 by omega), hn, nI_1])
set_option maxHeartbeats 4000000 in
set_option maxRecDepth 100000 in
theorem c_X7_endPart (l : Launch) (g : jG) (a : Nat → Nat) (M : (Nat → Nat → Int32)) (K : Nat) (hK : isTx K) (p : Int32) (q : Nat) (hp : p = nI q) (hq : q < 3) : Cv l g yX7_endPart cX7_endPart 2 0 0 0 0 (cW g a) [.ref (a K), .int p] M (fun z => z = uM M (K + 2) q (M K 2)) := by
  refine mk_v (by decide +kernel) rfl (fun KK hKl hKg C hin hret => ?_)
  subst hKl; subst hKg
  refine j_lv (lv' := [(0, _), (1, _)]) rfl ?_
  have e_q : (nI q).toInt = q := nI_toInt (by omega); subst hp
  refine j_iload_n C dX7_endPart_0 rfl rfl ?_
  refine j_if_lt (tgt := 23) C dX7_endPart_1 (by decide) (fun c_1 => ?_) (fun c_1 => ?_)
  · skip
    exact absurd c_1 (nI_pos (by omega))
  · skip
    refine j_iload_n C dX7_endPart_4 rfl rfl ?_
    refine j_aload_n C dX7_endPart_5 rfl rfl ?_
    refine j_get C dX7_endPart_6 jf_RX7_15 (wO (cTx hK)) rfl ?_
    refine j_alen (v := 3) C dX7_endPart_9 (wA (cTxE hK)) gty_0 rfl ?_
    refine j_icmp_ge (tgt := 23) C dX7_endPart_10 (by decide) (fun c_2 => ?_) (fun c_2 => ?_)
    · skip
      exact absurd c_2 (nI_ge hq (by decide))
    · skip
      refine j_aload_n C dX7_endPart_13 rfl rfl ?_
      refine j_get C dX7_endPart_14 jf_RX7_15 (wO (cTx hK)) rfl ?_
      refine j_iload_n C dX7_endPart_17 rfl rfl ?_
      refine j_aload_n C dX7_endPart_18 rfl rfl ?_
      refine j_get C dX7_endPart_19 jf_RX7_18 (wO (cTx hK)) rfl ?_
      refine j_iast C (q) dX7_endPart_22 (wA (cTxE hK)) (rfl) (hq) (by decide) (sA (cTxE hK) _ _) ?_
      refine hret _ _ _ dX7_endPart_23 ?_
      exact rfl
set_option maxHeartbeats 4000000 in
set_option maxRecDepth 100000 in
theorem c_X7_startOf (l : Launch) (g : jG) (a : Nat → Nat) (M : (Nat → Nat → Int32)) (K : Nat) (hK : isTx K) (p : Int32) (q : Nat) (hp : p = nI q) (hq : q < 3) : Ci l g yX7_startOf cX7_startOf 2 .int 0 0 0 0 (cW g a) [.ref (a K), .int p] M (fun r z => r = (if q = 0 then 0 else M (K + 2) (q - 1)) ∧ z = M) := by
  refine mk_i (by decide +kernel) rfl (fun KK hKl hKg C hin hret => ?_)
  subst hKl; subst hKg
  refine j_lv (lv' := [(0, _), (1, _)]) rfl ?_
  have e_q : (nI q).toInt = q := nI_toInt (by omega); subst hp
  refine j_iload_n C dX7_startOf_0 rfl rfl ?_
  refine j_iconst (v := 1) C dX7_startOf_1 rfl ?_
  refine j_icmp_lt (tgt := 25) C dX7_startOf_2 (by decide) (fun c_1 => ?_) (fun c_1 => ?_)
  · skip
    refine j_iconst (v := 0) C dX7_startOf_25 rfl ?_
    refine hret _ _ _ _ dX7_startOf_26 rfl ?_
    first
      | (have h : q = 0 := by simp only [Int32.lt_iff_toInt_lt, Int32.le_iff_toInt_le, ← Int32.toInt_inj, Int32.reduceToInt, e_q] at c_1; omega
         subst h; exact ⟨rfl, rfl⟩)
      | (have h : ¬ q = 0 := by simp only [Int32.lt_iff_toInt_lt, Int32.le_iff_toInt_le, ← Int32.toInt_inj, Int32.reduceToInt, e_q] at c_1; omega
         exact ⟨(if_neg h).symm, rfl⟩)
  · skip
    refine j_iload_n C dX7_startOf_5 rfl rfl ?_
    refine j_aload_n C dX7_startOf_6 rfl rfl ?_
    refine j_get C dX7_startOf_7 jf_RX7_15 (wO (cTx hK)) rfl ?_
    refine j_alen (v := 3) C dX7_startOf_10 (wA (cTxE hK)) gty_0 rfl ?_
    refine j_icmp_gt (tgt := 25) C dX7_startOf_11 (by decide) (fun c_2 => ?_) (fun c_2 => ?_)
    · skip
      exact absurd c_2 (by simp only [Int32.lt_iff_toInt_lt, Int32.le_iff_toInt_le, ← Int32.toInt_inj, Int32.reduceToInt, e_q]; omega)
    · skip
      refine j_aload_n C dX7_startOf_14 rfl rfl ?_
      refine j_get C dX7_startOf_15 jf_RX7_15 (wO (cTx hK)) rfl ?_
      refine j_iload_n C dX7_startOf_18 rfl rfl ?_
      refine j_iconst (v := 1) C dX7_startOf_19 rfl ?_
      refine j_isub C dX7_startOf_20 ?_
      refine j_iald C (q - 1) dX7_startOf_21 (wA (cTxE hK)) (by
            have h1 : 1 ≤ q := by simp only [Int32.lt_iff_toInt_lt, Int32.le_iff_toInt_le, ← Int32.toInt_inj, Int32.reduceToInt, e_q] at c_1; omega
            exact pk_sub h1) (by omega) (by decide) ?_
      refine j_goto (tgt := 26) C dX7_startOf_22 (by decide) ?_
      refine hret _ _ _ _ dX7_startOf_26 rfl ?_
      first
        | (have h : q = 0 := by simp only [Int32.lt_iff_toInt_lt, Int32.le_iff_toInt_le, ← Int32.toInt_inj, Int32.reduceToInt, e_q] at c_1; omega
           subst h; exact ⟨rfl, rfl⟩)
        | (have h : ¬ q = 0 := by simp only [Int32.lt_iff_toInt_lt, Int32.le_iff_toInt_le, ← Int32.toInt_inj, Int32.reduceToInt, e_q] at c_1; omega
           exact ⟨(if_neg h).symm, rfl⟩)
set_option maxHeartbeats 4000000 in
set_option maxRecDepth 100000 in
theorem c_X7_endOf (l : Launch) (g : jG) (a : Nat → Nat) (M : (Nat → Nat → Int32)) (K : Nat) (hK : isTx K) (p : Int32) (q : Nat) (hp : p = nI q) (hq : q < 3) : Ci l g yX7_endOf cX7_endOf 2 .int 0 0 0 0 (cW g a) [.ref (a K), .int p] M (fun r z => r = M (K + 2) q ∧ z = M) := by
  refine mk_i (by decide +kernel) rfl (fun KK hKl hKg C hin hret => ?_)
  subst hKl; subst hKg
  refine j_lv (lv' := [(0, _), (1, _)]) rfl ?_
  have e_q : (nI q).toInt = q := nI_toInt (by omega); subst hp
  refine j_iload_n C dX7_endOf_0 rfl rfl ?_
  refine j_if_lt (tgt := 22) C dX7_endOf_1 (by decide) (fun c_1 => ?_) (fun c_1 => ?_)
  · skip
    exact absurd c_1 (nI_pos (by omega))
  · skip
    refine j_iload_n C dX7_endOf_4 rfl rfl ?_
    refine j_aload_n C dX7_endOf_5 rfl rfl ?_
    refine j_get C dX7_endOf_6 jf_RX7_15 (wO (cTx hK)) rfl ?_
    refine j_alen (v := 3) C dX7_endOf_9 (wA (cTxE hK)) gty_0 rfl ?_
    refine j_icmp_ge (tgt := 22) C dX7_endOf_10 (by decide) (fun c_2 => ?_) (fun c_2 => ?_)
    · skip
      exact absurd c_2 (nI_ge hq (by decide))
    · skip
      refine j_aload_n C dX7_endOf_13 rfl rfl ?_
      refine j_get C dX7_endOf_14 jf_RX7_15 (wO (cTx hK)) rfl ?_
      refine j_iload_n C dX7_endOf_17 rfl rfl ?_
      refine j_iald C (q) dX7_endOf_18 (wA (cTxE hK)) (rfl) (hq) (by decide) ?_
      refine j_goto (tgt := 23) C dX7_endOf_19 (by decide) ?_
      refine hret _ _ _ _ dX7_endOf_23 rfl ?_
      exact ⟨rfl, rfl⟩
set_option maxHeartbeats 4000000 in
set_option maxRecDepth 100000 in
theorem c_X7_itemAt (l : Launch) (g : jG) (a : Nat → Nat) (M : (Nat → Nat → Int32)) (K : Nat) (hK : isTx K) (p : Int32) (q : Nat) (hp : p = nI q) (hq : q < 160) : Ci l g yX7_itemAt cX7_itemAt 2 .int 0 0 0 0 (cW g a) [.ref (a K), .int p] M (fun r z => r = M (K + 1) q ∧ z = M) := by
  refine mk_i (by decide +kernel) rfl (fun KK hKl hKg C hin hret => ?_)
  subst hKl; subst hKg
  refine j_lv (lv' := [(0, _), (1, _)]) rfl ?_
  have e_q : (nI q).toInt = q := nI_toInt (by omega); subst hp
  refine j_iload_n C dX7_itemAt_0 rfl rfl ?_
  refine j_if_lt (tgt := 22) C dX7_itemAt_1 (by decide) (fun c_1 => ?_) (fun c_1 => ?_)
  · skip
    exact absurd c_1 (nI_pos (by omega))
  · skip
    refine j_iload_n C dX7_itemAt_4 rfl rfl ?_
    refine j_aload_n C dX7_itemAt_5 rfl rfl ?_
    refine j_get C dX7_itemAt_6 jf_RX7_9 (wO (cTx hK)) rfl ?_
    refine j_alen (v := 160) C dX7_itemAt_9 (wA (cTxR hK)) gty_0 rfl ?_
    refine j_icmp_ge (tgt := 22) C dX7_itemAt_10 (by decide) (fun c_2 => ?_) (fun c_2 => ?_)
    · skip
      exact absurd c_2 (nI_ge hq (by decide))
    · skip
      refine j_aload_n C dX7_itemAt_13 rfl rfl ?_
      refine j_get C dX7_itemAt_14 jf_RX7_9 (wO (cTx hK)) rfl ?_
      refine j_iload_n C dX7_itemAt_17 rfl rfl ?_
      refine j_iald C (q) dX7_itemAt_18 (wA (cTxR hK)) (rfl) (hq) (by decide) ?_
      refine j_goto (tgt := 23) C dX7_itemAt_19 (by decide) ?_
      refine hret _ _ _ _ dX7_itemAt_23 rfl ?_
      exact ⟨rfl, rfl⟩
set_option maxHeartbeats 4000000 in
set_option maxRecDepth 100000 in
theorem c_X4_lookAt (l : Launch) (g : jG) (a : Nat → Nat) (M : (Nat → Nat → Int32)) (G : Nat) (hG : isGl G) (p : Int32) (d : Int32) (f : Int32)  : Cv l g yX4_lookAt cX4_lookAt 5 1 14 0 0 (cW g a) [.ref (a 24), .ref (a G), .int p, .int d, .int f] M (fun z => (∀ k, k ≠ 24 → z k = M k) ∧ ∀ i, 2 ≤ i → i < 8 → z 24 i = enS (M G) p d f i) := by
  refine mk_v (by decide +kernel) rfl (fun KK hKl hKg C hin hret => ?_)
  subst hKl; subst hKg
  refine j_lv (lv' := [(0, _), (1, _), (2, _), (3, _), (4, _)]) rfl ?_
  refine j_aload_n C dX4_lookAt_0 rfl rfl ?_
  refine j_iload_n C dX4_lookAt_1 rfl rfl ?_
  refine j_put C dX4_lookAt_2 jp_RX4_15 (wO cRk) (Nat.le_of_ble_eq_true rfl) rfl rfl (sO cRk 2 _ rfl) ?_
  refine j_aload_n C dX4_lookAt_5 rfl rfl ?_
  refine j_aload_n C dX4_lookAt_6 rfl rfl ?_
  refine j_get C dX4_lookAt_7 jf_RX4_19 (wO (cGl hG)) rfl ?_
  refine j_put C dX4_lookAt_10 jp_RX4_24 (wO cRk) (Nat.le_of_ble_eq_true rfl) rfl rfl (sO cRk 3 _ rfl) ?_
  refine j_aload_n C dX4_lookAt_13 rfl rfl ?_
  refine j_iload_n C dX4_lookAt_14 rfl rfl ?_
  refine j_put C dX4_lookAt_15 jp_RX4_25 (wO cRk) (Nat.le_of_ble_eq_true rfl) rfl rfl (sO cRk 4 _ rfl) ?_
  refine j_aload_n C dX4_lookAt_18 rfl rfl ?_
  refine j_aload_n C dX4_lookAt_19 rfl rfl ?_
  refine j_get C dX4_lookAt_20 jf_RX4_28 (wO (cGl hG)) rfl ?_
  refine j_put C dX4_lookAt_23 jp_RX4_31 (wO cRk) (Nat.le_of_ble_eq_true rfl) rfl rfl (sO cRk 5 _ rfl) ?_
  refine j_aload_n C dX4_lookAt_26 rfl rfl ?_
  refine j_iload_n C dX4_lookAt_27 rfl rfl ?_
  refine j_iload C dX4_lookAt_28 rfl ?_
  refine j_isub C dX4_lookAt_30 ?_
  refine j_mabs C dX4_lookAt_31 jx_RX4_32 (by decide) (Nat.le_of_ble_eq_true rfl) (by decide) (by decide) ?_
  refine j_put C dX4_lookAt_34 jp_RX4_38 (wO cRk) (Nat.le_of_ble_eq_true rfl) rfl rfl (sO cRk 6 _ rfl) ?_
  refine j_aload_n C dX4_lookAt_37 rfl rfl ?_
  refine j_aload_n C dX4_lookAt_38 rfl rfl ?_
  refine j_get C dX4_lookAt_39 jf_RX4_41 (wO (cGl hG)) rfl ?_
  refine j_put C dX4_lookAt_42 jp_RX4_44 (wO cRk) (Nat.le_of_ble_eq_true rfl) rfl rfl (sO cRk 7 _ rfl) ?_
  refine hret _ _ _ dX4_lookAt_45 ?_
  have hG4 := (Gl24 hG).1
  refine ⟨fun k h => by simp only [uM_ne h], fun i h1 h2 => ?_⟩
  have h5 : i = 2 ∨ i = 3 ∨ i = 4 ∨ i = 5 ∨ i = 6 ∨ i = 7 := by omega
  rcases h5 with rfl | rfl | rfl | rfl | rfl | rfl <;> simp [uM_all, hG4, enS]
set_option maxHeartbeats 4000000 in
set_option maxRecDepth 100000 in
theorem c_X4_push (l : Launch) (g : jG) (a : Nat → Nat) (M : (Nat → Nat → Int32)) (v : Int32) (s : List Int32) (h : skR M s) (hl : s.length < 160) : Cv l g yX4_push cX4_push 2 0 0 0 0 (cW g a) [.ref (a 24), .int v] M (fun z => skR z (v :: s) ∧ rkF M z) := by
  refine mk_v (by decide +kernel) rfl (fun KK hKl hKg C hin hret => ?_)
  subst hKl; subst hKg
  refine j_lv (lv' := [(0, _), (1, _)]) rfl ?_
  refine j_aload_n C dX4_push_0 rfl rfl ?_
  refine j_get C dX4_push_1 jf_RX4_45 (wO cRk) rfl ?_
  refine j_if_lt (tgt := 39) C dX4_push_4 (by decide) (fun c_1 => ?_) (fun c_1 => ?_)
  · skip
    exact absurd c_1 (by rw [h.1]; exact nI_pos (by omega))
  · skip
    refine j_aload_n C dX4_push_7 rfl rfl ?_
    refine j_get C dX4_push_8 jf_RX4_45 (wO cRk) rfl ?_
    refine j_aload_n C dX4_push_11 rfl rfl ?_
    refine j_get C dX4_push_12 jf_RX4_9 (wO cRk) rfl ?_
    refine j_alen (v := 160) C dX4_push_15 (wA cA25) gty_0 rfl ?_
    refine j_icmp_ge (tgt := 39) C dX4_push_16 (by decide) (fun c_2 => ?_) (fun c_2 => ?_)
    · skip
      exact absurd c_2 (by rw [h.1]; exact nI_ge hl (by decide))
    · skip
      refine j_aload_n C dX4_push_19 rfl rfl ?_
      refine j_get C dX4_push_20 jf_RX4_9 (wO cRk) rfl ?_
      refine j_aload_n C dX4_push_23 rfl rfl ?_
      refine j_get C dX4_push_24 jf_RX4_45 (wO cRk) rfl ?_
      refine j_iload_n C dX4_push_27 rfl rfl ?_
      refine j_iast C (s.length) dX4_push_28 (wA cA25) (h.1) (hl) (by decide) (sA cA25 _ _) ?_
      refine j_aload_n C dX4_push_29 rfl rfl ?_
      refine j_dup C dX4_push_30 rfl ?_
      refine j_get C dX4_push_31 jf_RX4_45 (wO cRk) rfl ?_
      refine j_iconst (v := 1) C dX4_push_34 rfl ?_
      refine j_iadd C dX4_push_35 ?_
      refine j_put C dX4_push_36 jp_RX4_45 (wO cRk) (Nat.le_of_ble_eq_true rfl) rfl rfl (sO cRk 1 _ rfl) ?_
      refine hret _ _ _ dX4_push_39 ?_
      have e : uM M 25 s.length v 24 1 + 1 = nI (s.length + 1) := by rw [uM_ne (by decide), h.1, nI_1]
      rw [e]
      exact ⟨skR_push h hl, fun k a b => by rw [uM_ne a, uM_ne b], fun i a => by rw [uM_n a, uM_ne (by decide)]⟩
set_option maxHeartbeats 4000000 in
set_option maxRecDepth 100000 in
theorem c_X4_pop (l : Launch) (g : jG) (a : Nat → Nat) (M : (Nat → Nat → Int32))  (s : List Int32) (h : skR M s) : Ci l g yX4_pop cX4_pop 1 .int 0 0 0 0 (cW g a) [.ref (a 24)] M (fun r z => r = s.headD 0 ∧ skR z s.tail ∧ rkF M z) := by
  refine mk_i (by decide +kernel) rfl (fun KK hKl hKg C hin hret => ?_)
  subst hKl; subst hKg
  refine j_lv (lv' := [(0, _)]) rfl ?_
  refine j_aload_n C dX4_pop_0 rfl rfl ?_
  refine j_get C dX4_pop_1 jf_RX4_45 (wO cRk) rfl ?_
  refine j_iconst (v := 1) C dX4_pop_4 rfl ?_
  refine j_icmp_lt (tgt := 20) C dX4_pop_5 (by decide) (fun c_1 => ?_) (fun c_1 => ?_)
  · skip
    have hl : s.length = 0 := by
      have e := h.2.1
      rw [h.1] at c_1; simp only [Int32.lt_iff_toInt_lt, Int32.le_iff_toInt_le, ← Int32.toInt_inj, Int32.reduceToInt, nI_toInt (show s.length < 2147483648 by omega)] at c_1; omega
    refine j_iconst (v := 0) C dX4_pop_20 rfl ?_
    refine hret _ _ _ _ dX4_pop_21 rfl ?_
    first
      | (have hs : s = [] := List.length_eq_zero_iff.mp hl
         subst hs; exact ⟨rfl, h, rkF_r⟩)
      | (rw [e1]
         exact ⟨by rw [uM_ne (by decide)]; exact (skR_pop h).2, (skR_pop h).1, fun k a b => by rw [uM_ne a], fun i a => by rw [uM_n a]⟩)
  · skip
    have hl : 0 < s.length := by
      have e := h.2.1
      rw [h.1] at c_1; simp only [Int32.lt_iff_toInt_lt, Int32.le_iff_toInt_le, ← Int32.toInt_inj, Int32.reduceToInt, nI_toInt (show s.length < 2147483648 by omega)] at c_1; omega
    obtain ⟨v, s', rfl⟩ : ∃ v s', s = v :: s' := by
      cases s with
      | nil => simp at hl
      | cons v s' => exact ⟨v, s', rfl⟩
    have e1 : M 24 1 - 1 = nI s'.length := by rw [h.1]; exact pk_sub (by simp)
    refine j_aload_n C dX4_pop_8 rfl rfl ?_
    refine j_get C dX4_pop_9 jf_RX4_45 (wO cRk) rfl ?_
    refine j_aload_n C dX4_pop_12 rfl rfl ?_
    refine j_get C dX4_pop_13 jf_RX4_9 (wO cRk) rfl ?_
    refine j_alen (v := 160) C dX4_pop_16 (wA cA25) gty_0 rfl ?_
    refine j_icmp_le (tgt := 22) C dX4_pop_17 (by decide) (fun c_2 => ?_) (fun c_2 => ?_)
    · skip
      refine j_aload_n C dX4_pop_22 rfl rfl ?_
      refine j_dup C dX4_pop_23 rfl ?_
      refine j_get C dX4_pop_24 jf_RX4_45 (wO cRk) rfl ?_
      refine j_iconst (v := 1) C dX4_pop_27 rfl ?_
      refine j_isub C dX4_pop_28 ?_
      refine j_put C dX4_pop_29 jp_RX4_45 (wO cRk) (Nat.le_of_ble_eq_true rfl) rfl rfl (sO cRk 1 _ rfl) ?_
      refine j_aload_n C dX4_pop_32 rfl rfl ?_
      refine j_get C dX4_pop_33 jf_RX4_9 (wO cRk) rfl ?_
      refine j_aload_n C dX4_pop_36 rfl rfl ?_
      refine j_get C dX4_pop_37 jf_RX4_45 (wO cRk) rfl ?_
      refine j_iald C (s'.length) dX4_pop_40 (wA cA25) (by rw [uM_s, e1]) (by have := h.2.1; simp at this; omega) (by decide) ?_
      refine hret _ _ _ _ dX4_pop_41 rfl ?_
      first
        | (have hs : s = [] := List.length_eq_zero_iff.mp hl
           subst hs; exact ⟨rfl, h, rkF_r⟩)
        | (rw [e1]
           exact ⟨by rw [uM_ne (by decide)]; exact (skR_pop h).2, (skR_pop h).1, fun k a b => by rw [uM_ne a], fun i a => by rw [uM_n a]⟩)
    · skip
      exact absurd c_2 (by rw [h.1]; have := h.2.1; simp only [Int32.lt_iff_toInt_lt, Int32.le_iff_toInt_le, ← Int32.toInt_inj, Int32.reduceToInt, nI_toInt (show (v :: s').length < 2147483648 by omega)]; omega)
set_option maxHeartbeats 4000000 in
set_option maxRecDepth 100000 in
theorem c_X4_named (l : Launch) (g : jG) (a : Nat → Nat) (M : (Nat → Nat → Int32)) (n : Int32)  : Ci l g yX4_named cX4_named 2 .int 0 0 0 0 (cW g a) [.ref (a 24), .int n] M (fun r z => r = nmS (M 24) n ∧ z = M) := by
  refine mk_i (by decide +kernel) rfl (fun KK hKl hKg C hin hret => ?_)
  subst hKl; subst hKg
  refine j_lv (lv' := [(0, _), (1, _)]) rfl ?_
  refine j_iload_n C dX4_named_0 rfl rfl ?_
  by_cases s_1 : n = 1
  · refine j_tableIn (off := 35) (tgt := 36) C dX4_named_1 (by rw [s_1]; decide) (by rw [s_1]; decide) (by rw [s_1]; rfl) (by decide) ?_
    refine j_aload_n C dX4_named_36 rfl rfl ?_
    refine j_get C dX4_named_37 jf_RX4_15 (wO cRk) rfl ?_
    refine hret _ _ _ _ dX4_named_40 rfl ?_
    refine ⟨?_, rfl⟩; simp [nmS, *]
  by_cases s_2 : n = 2
  · refine j_tableIn (off := 40) (tgt := 41) C dX4_named_1 (by rw [s_2]; decide) (by rw [s_2]; decide) (by rw [s_2]; rfl) (by decide) ?_
    refine j_aload_n C dX4_named_41 rfl rfl ?_
    refine j_get C dX4_named_42 jf_RX4_24 (wO cRk) rfl ?_
    refine hret _ _ _ _ dX4_named_45 rfl ?_
    refine ⟨?_, rfl⟩; simp [nmS, *]
  by_cases s_3 : n = 3
  · refine j_tableIn (off := 45) (tgt := 46) C dX4_named_1 (by rw [s_3]; decide) (by rw [s_3]; decide) (by rw [s_3]; rfl) (by decide) ?_
    refine j_aload_n C dX4_named_46 rfl rfl ?_
    refine j_get C dX4_named_47 jf_RX4_25 (wO cRk) rfl ?_
    refine hret _ _ _ _ dX4_named_50 rfl ?_
    refine ⟨?_, rfl⟩; simp [nmS, *]
  by_cases s_4 : n = 4
  · refine j_tableIn (off := 50) (tgt := 51) C dX4_named_1 (by rw [s_4]; decide) (by rw [s_4]; decide) (by rw [s_4]; rfl) (by decide) ?_
    refine j_aload_n C dX4_named_51 rfl rfl ?_
    refine j_get C dX4_named_52 jf_RX4_31 (wO cRk) rfl ?_
    refine hret _ _ _ _ dX4_named_55 rfl ?_
    refine ⟨?_, rfl⟩; simp [nmS, *]
  by_cases s_5 : n = 5
  · refine j_tableIn (off := 55) (tgt := 56) C dX4_named_1 (by rw [s_5]; decide) (by rw [s_5]; decide) (by rw [s_5]; rfl) (by decide) ?_
    refine j_aload_n C dX4_named_56 rfl rfl ?_
    refine j_get C dX4_named_57 jf_RX4_38 (wO cRk) rfl ?_
    refine hret _ _ _ _ dX4_named_60 rfl ?_
    refine ⟨?_, rfl⟩; simp [nmS, *]
  have hsw : n.toInt < 1 ∨ 5 < n.toInt := by
    have q1 : ¬ n.toInt = 1 := lv_neT s_1 rfl
    have q2 : ¬ n.toInt = 2 := lv_neT s_2 rfl
    have q3 : ¬ n.toInt = 3 := lv_neT s_3 rfl
    have q4 : ¬ n.toInt = 4 := lv_neT s_4 rfl
    have q5 : ¬ n.toInt = 5 := lv_neT s_5 rfl
    omega
  refine j_tableOut (tgt := 61) C dX4_named_1 hsw (by decide) ?_
  refine j_aload_n C dX4_named_61 rfl rfl ?_
  refine j_get C dX4_named_62 jf_RX4_44 (wO cRk) rfl ?_
  refine hret _ _ _ _ dX4_named_65 rfl ?_
  refine ⟨?_, rfl⟩; simp [nmS, *]
set_option maxHeartbeats 4000000 in
set_option maxRecDepth 100000 in
theorem c_X4_joined (l : Launch) (g : jG) {S : Type} (wd : S → va_W) (x : S) (t : Int32) (u : Int32) (v : Int32)  : Ci l g yX4_joined cX4_joined 3 .int 0 0 0 0 wd [.int t, .int u, .int v] x (fun r z => r = jnS t u v ∧ z = x) := by
  refine mk_i (by decide +kernel) rfl (fun KK hKl hKg C hin hret => ?_)
  subst hKl; subst hKg
  refine j_lv (lv' := [(0, _), (1, _), (2, _)]) rfl ?_
  refine j_iload_n C dX4_joined_0 rfl rfl ?_
  by_cases s_1 : t = 10
  · refine j_lookup (off := 59) (tgt := 60) C dX4_joined_1 (by decide) (by rw [s_1]; rfl) (by decide) ?_
    refine j_iload_n C dX4_joined_60 rfl rfl ?_
    refine j_if_ne (tgt := 68) C dX4_joined_61 (by decide) (fun c_2 => ?_) (fun c_2 => ?_)
    · skip
      refine j_iconst (v := 1) C dX4_joined_68 rfl ?_
      refine j_goto (tgt := 73) C dX4_joined_69 (by decide) ?_
      refine hret _ _ _ _ dX4_joined_73 rfl ?_
      refine ⟨?_, rfl⟩; simp [jnS, *]
    · skip
      refine j_iload_n C dX4_joined_64 rfl rfl ?_
      refine j_if_eq (tgt := 72) C dX4_joined_65 (by decide) (fun c_3 => ?_) (fun c_3 => ?_)
      · skip
        refine j_iconst (v := 0) C dX4_joined_72 rfl ?_
        refine hret _ _ _ _ dX4_joined_73 rfl ?_
        refine ⟨?_, rfl⟩; simp [jnS, *]
      · skip
        refine j_iconst (v := 1) C dX4_joined_68 rfl ?_
        refine j_goto (tgt := 73) C dX4_joined_69 (by decide) ?_
        refine hret _ _ _ _ dX4_joined_73 rfl ?_
        refine ⟨?_, rfl⟩; simp [jnS, *]
  by_cases s_4 : t = 11
  · refine j_lookup (off := 73) (tgt := 74) C dX4_joined_1 (by decide) (by rw [s_4]; rfl) (by decide) ?_
    refine j_iload_n C dX4_joined_74 rfl rfl ?_
    refine j_if_eq (tgt := 86) C dX4_joined_75 (by decide) (fun c_5 => ?_) (fun c_5 => ?_)
    · skip
      refine j_iconst (v := 0) C dX4_joined_86 rfl ?_
      refine hret _ _ _ _ dX4_joined_87 rfl ?_
      refine ⟨?_, rfl⟩; simp [jnS, *]
    · skip
      refine j_iload_n C dX4_joined_78 rfl rfl ?_
      refine j_if_eq (tgt := 86) C dX4_joined_79 (by decide) (fun c_6 => ?_) (fun c_6 => ?_)
      · skip
        refine j_iconst (v := 0) C dX4_joined_86 rfl ?_
        refine hret _ _ _ _ dX4_joined_87 rfl ?_
        refine ⟨?_, rfl⟩; simp [jnS, *]
      · skip
        refine j_iconst (v := 1) C dX4_joined_82 rfl ?_
        refine j_goto (tgt := 87) C dX4_joined_83 (by decide) ?_
        refine hret _ _ _ _ dX4_joined_87 rfl ?_
        refine ⟨?_, rfl⟩; simp [jnS, *]
  by_cases s_7 : t = 43
  · refine j_lookup (off := 109) (tgt := 110) C dX4_joined_1 (by decide) (by rw [s_7]; rfl) (by decide) ?_
    refine j_iload_n C dX4_joined_110 rfl rfl ?_
    refine j_iload_n C dX4_joined_111 rfl rfl ?_
    refine j_iadd C dX4_joined_112 ?_
    refine hret _ _ _ _ dX4_joined_113 rfl ?_
    refine ⟨?_, rfl⟩; simp [jnS, *]
  by_cases s_8 : t = 45
  · refine j_lookup (off := 113) (tgt := 114) C dX4_joined_1 (by decide) (by rw [s_8]; rfl) (by decide) ?_
    refine j_iload_n C dX4_joined_114 rfl rfl ?_
    refine j_iload_n C dX4_joined_115 rfl rfl ?_
    refine j_isub C dX4_joined_116 ?_
    refine hret _ _ _ _ dX4_joined_117 rfl ?_
    refine ⟨?_, rfl⟩; simp [jnS, *]
  by_cases s_9 : t = 60
  · refine j_lookup (off := 87) (tgt := 88) C dX4_joined_1 (by decide) (by rw [s_9]; rfl) (by decide) ?_
    refine j_iload_n C dX4_joined_88 rfl rfl ?_
    refine j_iload_n C dX4_joined_89 rfl rfl ?_
    refine j_icmp_ge (tgt := 97) C dX4_joined_90 (by decide) (fun c_10 => ?_) (fun c_10 => ?_)
    · skip
      refine j_iconst (v := 0) C dX4_joined_97 rfl ?_
      refine hret _ _ _ _ dX4_joined_98 rfl ?_
      refine ⟨?_, rfl⟩; simp [jnS, *]
    · skip
      refine j_iconst (v := 1) C dX4_joined_93 rfl ?_
      refine j_goto (tgt := 98) C dX4_joined_94 (by decide) ?_
      refine hret _ _ _ _ dX4_joined_98 rfl ?_
      refine ⟨?_, rfl⟩; simp [jnS, *]
  by_cases s_11 : t = 61
  · refine j_lookup (off := 98) (tgt := 99) C dX4_joined_1 (by decide) (by rw [s_11]; rfl) (by decide) ?_
    refine j_iload_n C dX4_joined_99 rfl rfl ?_
    refine j_iload_n C dX4_joined_100 rfl rfl ?_
    refine j_icmp_ne (tgt := 108) C dX4_joined_101 (by decide) (fun c_12 => ?_) (fun c_12 => ?_)
    · skip
      refine j_iconst (v := 0) C dX4_joined_108 rfl ?_
      refine hret _ _ _ _ dX4_joined_109 rfl ?_
      refine ⟨?_, rfl⟩; simp [jnS, *]
    · skip
      refine j_iconst (v := 1) C dX4_joined_104 rfl ?_
      refine j_goto (tgt := 109) C dX4_joined_105 (by decide) ?_
      refine hret _ _ _ _ dX4_joined_109 rfl ?_
      refine ⟨?_, rfl⟩; simp [jnS, *]
  refine j_lookup (off := 117) (tgt := 118) C dX4_joined_1 (by decide) ((lv_osw s_1 rfl).trans ((lv_osw s_4 rfl).trans ((lv_osw s_7 rfl).trans ((lv_osw s_8 rfl).trans ((lv_osw s_9 rfl).trans ((lv_osw s_11 rfl).trans rfl)))))) (by decide) ?_
  refine j_iload_n C dX4_joined_118 rfl rfl ?_
  refine j_iload_n C dX4_joined_119 rfl rfl ?_
  refine j_imul C dX4_joined_120 ?_
  refine hret _ _ _ _ dX4_joined_121 rfl ?_
  refine ⟨?_, rfl⟩; simp [jnS, *]
set_option maxHeartbeats 4000000 in
set_option maxRecDepth 100000 in
theorem c_X4_operate (l : Launch) (g : jG) (a : Nat → Nat) (M : (Nat → Nat → Int32)) (t : Int32) (s : List Int32) (h : skR M s) : Cv l g yX4_operate cX4_operate 3 1 22 0 0 (cW g a) [.ref (a 24), .int t] M (fun z => skR z (opS t s) ∧ rkF M z) := by
  refine mk_v (by decide +kernel) rfl (fun KK hKl hKg C hin hret => ?_)
  subst hKl; subst hKg
  refine j_lv (lv' := [(0, _), (1, _)]) rfl ?_
  refine j_aload_n C dX4_operate_0 rfl rfl ?_
  refine j_calliv C (c_X4_pop _ _ _ _  s h) dX4_operate_1 jm_RX4_73 ⟨_, _, _, _, wO cRk, rfl, rfl⟩ ⟨by decide, by decide, by decide, by decide⟩ rfl (Nat.le_of_ble_eq_true rfl) (fun r_1 z_1 hz_1 => ?_)
  obtain ⟨hr, zs_1, zf_1⟩ := hz_1; have hr := hr.symm; subst hr
  refine j_istore_n (lv' := [(2, _), (0, _), (1, _)]) C dX4_operate_4 rfl (by decide) rfl ?_
  refine j_iload_n C dX4_operate_5 rfl rfl ?_
  refine j_bipush (v := 12) C dX4_operate_6 rfl ?_
  refine j_icmp_ne (tgt := 27) C dX4_operate_8 (by decide) (fun c_1 => ?_) (fun c_1 => ?_)
  · skip
    refine j_iload_n C dX4_operate_27 rfl rfl ?_
    refine j_bipush (v := 16) C dX4_operate_28 rfl ?_
    refine j_icmp_ne (tgt := 42) C dX4_operate_30 (by decide) (fun c_2 => ?_) (fun c_2 => ?_)
    · skip
      refine j_aload_n C dX4_operate_42 rfl rfl ?_
      refine j_iload_n C dX4_operate_43 rfl rfl ?_
      refine j_aload_n C dX4_operate_44 rfl rfl ?_
      refine j_calliv C (c_X4_pop _ _ _ _  s.tail zs_1) dX4_operate_45 jm_RX4_73 ⟨_, _, _, _, wO cRk, rfl, rfl⟩ ⟨by decide, by decide, by decide, by decide⟩ rfl (Nat.le_of_ble_eq_true rfl) (fun r_45 z_45 hz_45 => ?_)
      obtain ⟨hr, zs_45, zf_45⟩ := hz_45; have hr := hr.symm; subst hr
      refine j_iload_n C dX4_operate_48 rfl rfl ?_
      refine j_callis C (c_X4_joined _ _ _ _ _ _ _ ) dX4_operate_49 jm_RX4_77 ⟨by decide, by decide, by decide, by decide⟩ rfl (Nat.le_of_ble_eq_true rfl) (fun r z hz => ?_)
      obtain ⟨hr, hz⟩ := hz; have hr := hr.symm; have hz := hz.symm; subst hr; subst hz
      refine j_callvv C (c_X4_push _ _ _ _ _ s.tail.tail zs_45 (by have := h.2.1; simp; omega)) dX4_operate_52 jm_RX4_63 ⟨_, _, _, _, wO cRk, rfl, rfl⟩ ⟨by decide, by decide, by decide, by decide⟩ rfl (Nat.le_of_ble_eq_true rfl) (fun z_52 hz_52 => ?_)
      obtain ⟨zs_52, zf_52⟩ := hz_52
      refine hret _ _ _ dX4_operate_55 ?_
      first
        | (have e : opS t s = (if s.headD 0 = 0 then 1 else 0) :: s.tail := by simp [opS, *]
           rw [e]; first | exact ⟨by rw [if_pos (by assumption)]; exact zs_21, rkF_t zf_1 zf_21⟩ | exact ⟨by rw [if_neg (by assumption)]; exact zs_21, rkF_t zf_1 zf_21⟩)
        | (have e : opS t s = (-(s.headD 0)) :: s.tail := by simp [opS, *]
           rw [e]; exact ⟨zs_36, rkF_t zf_1 zf_36⟩)
        | (have e : opS t s = jnS t (s.tail.headD 0) (s.headD 0) :: s.tail.tail := by simp [opS, *]
           rw [e]; exact ⟨zs_52, rkF_t zf_1 (rkF_t zf_45 zf_52)⟩)
    · skip
      refine j_aload_n C dX4_operate_33 rfl rfl ?_
      refine j_iload_n C dX4_operate_34 rfl rfl ?_
      refine j_ineg C dX4_operate_35 ?_
      refine j_callvv C (c_X4_push _ _ _ _ _ s.tail zs_1 (by have := h.2.1; simp; omega)) dX4_operate_36 jm_RX4_63 ⟨_, _, _, _, wO cRk, rfl, rfl⟩ ⟨by decide, by decide, by decide, by decide⟩ rfl (Nat.le_of_ble_eq_true rfl) (fun z_36 hz_36 => ?_)
      obtain ⟨zs_36, zf_36⟩ := hz_36
      refine j_goto (tgt := 55) C dX4_operate_39 (by decide) ?_
      refine hret _ _ _ dX4_operate_55 ?_
      first
        | (have e : opS t s = (if s.headD 0 = 0 then 1 else 0) :: s.tail := by simp [opS, *]
           rw [e]; first | exact ⟨by rw [if_pos (by assumption)]; exact zs_21, rkF_t zf_1 zf_21⟩ | exact ⟨by rw [if_neg (by assumption)]; exact zs_21, rkF_t zf_1 zf_21⟩)
        | (have e : opS t s = (-(s.headD 0)) :: s.tail := by simp [opS, *]
           rw [e]; exact ⟨zs_36, rkF_t zf_1 zf_36⟩)
        | (have e : opS t s = jnS t (s.tail.headD 0) (s.headD 0) :: s.tail.tail := by simp [opS, *]
           rw [e]; exact ⟨zs_52, rkF_t zf_1 (rkF_t zf_45 zf_52)⟩)
  · skip
    refine j_aload_n C dX4_operate_11 rfl rfl ?_
    refine j_iload_n C dX4_operate_12 rfl rfl ?_
    refine j_if_ne (tgt := 20) C dX4_operate_13 (by decide) (fun c_3 => ?_) (fun c_3 => ?_)
    · skip
      refine j_iconst (v := 0) C dX4_operate_20 rfl ?_
      refine j_callvv C (c_X4_push _ _ _ _ _ s.tail zs_1 (by have := h.2.1; simp; omega)) dX4_operate_21 jm_RX4_63 ⟨_, _, _, _, wO cRk, rfl, rfl⟩ ⟨by decide, by decide, by decide, by decide⟩ rfl (Nat.le_of_ble_eq_true rfl) (fun z_21 hz_21 => ?_)
      obtain ⟨zs_21, zf_21⟩ := hz_21
      refine j_goto (tgt := 55) C dX4_operate_24 (by decide) ?_
      refine hret _ _ _ dX4_operate_55 ?_
      first
        | (have e : opS t s = (if s.headD 0 = 0 then 1 else 0) :: s.tail := by simp [opS, *]
           rw [e]; first | exact ⟨by rw [if_pos (by assumption)]; exact zs_21, rkF_t zf_1 zf_21⟩ | exact ⟨by rw [if_neg (by assumption)]; exact zs_21, rkF_t zf_1 zf_21⟩)
        | (have e : opS t s = (-(s.headD 0)) :: s.tail := by simp [opS, *]
           rw [e]; exact ⟨zs_36, rkF_t zf_1 zf_36⟩)
        | (have e : opS t s = jnS t (s.tail.headD 0) (s.headD 0) :: s.tail.tail := by simp [opS, *]
           rw [e]; exact ⟨zs_52, rkF_t zf_1 (rkF_t zf_45 zf_52)⟩)
    · skip
      refine j_iconst (v := 1) C dX4_operate_16 rfl ?_
      refine j_goto (tgt := 21) C dX4_operate_17 (by decide) ?_
      refine j_callvv C (c_X4_push _ _ _ _ _ s.tail zs_1 (by have := h.2.1; simp; omega)) dX4_operate_21 jm_RX4_63 ⟨_, _, _, _, wO cRk, rfl, rfl⟩ ⟨by decide, by decide, by decide, by decide⟩ rfl (Nat.le_of_ble_eq_true rfl) (fun z_21 hz_21 => ?_)
      obtain ⟨zs_21, zf_21⟩ := hz_21
      refine j_goto (tgt := 55) C dX4_operate_24 (by decide) ?_
      refine hret _ _ _ dX4_operate_55 ?_
      first
        | (have e : opS t s = (if s.headD 0 = 0 then 1 else 0) :: s.tail := by simp [opS, *]
           rw [e]; first | exact ⟨by rw [if_pos (by assumption)]; exact zs_21, rkF_t zf_1 zf_21⟩ | exact ⟨by rw [if_neg (by assumption)]; exact zs_21, rkF_t zf_1 zf_21⟩)
        | (have e : opS t s = (-(s.headD 0)) :: s.tail := by simp [opS, *]
           rw [e]; exact ⟨zs_36, rkF_t zf_1 zf_36⟩)
        | (have e : opS t s = jnS t (s.tail.headD 0) (s.headD 0) :: s.tail.tail := by simp [opS, *]
           rw [e]; exact ⟨zs_52, rkF_t zf_1 (rkF_t zf_45 zf_52)⟩)
set_option maxHeartbeats 4000000 in
set_option maxRecDepth 100000 in
theorem c_X4_reckon (l : Launch) (g : jG) (a : Nat → Nat) (M : (Nat → Nat → Int32)) (G : Nat) (hG : isTx G) (p : Int32) (q : Nat) (hp : p = nI q) (hq : q < 3) (T : Nat → List Int32) (hT : txR M G T) (e : Nat → Int32) (he : ∀ i, 2 ≤ i → i < 8 → M 24 i = e i) : Ci l g yX4_reckon cX4_reckon 6 .int 2 44 0 0 (cW g a) [.ref (a 24), .ref (a G), .int p] M (fun r z => r = vaS e (T q) ∧ rkF M z) := by
  refine mk_i (by decide +kernel) rfl (fun KK hKl hKg C hin hret => ?_)
  subst hKl; subst hKg
  refine j_lv (lv' := [(0, _), (1, _), (2, _)]) rfl ?_
  obtain ⟨b, hb0, hb1, hb2, hb3, hb4, hb⟩ := hT
  have hG24 := Tx24 hG
  obtain ⟨hb5, hb6⟩ := hb q hq
  have hbb : b q ≤ b (q + 1) := by
    have h3 : q = 0 ∨ q = 1 ∨ q = 2 := by omega
    rcases h3 with rfl | rfl | rfl <;> assumption
  have hbe : b (q + 1) ≤ 160 := by
    have h3 : q = 0 ∨ q = 1 ∨ q = 2 := by omega
    rcases h3 with rfl | rfl | rfl
    · show b 1 ≤ 160; omega
    · show b 2 ≤ 160; omega
    · show b 3 ≤ 160; omega
  generalize hB : b q = bb at hbb hb6
  generalize hE : b (q + 1) = ee at hbb hbe hb5 hb6
  have hst : (if q = 0 then 0 else M (G + 2) (q - 1)) = nI bb := by
    have h3 : q = 0 ∨ q = 1 ∨ q = 2 := by omega
    rcases h3 with rfl | rfl | rfl
    · rw [← hB, hb0]; rfl
    · rw [← hB]; exact (hb 0 (by decide)).1
    · rw [← hB]; exact (hb 1 (by decide)).1
  refine j_aload_n C dX4_reckon_0 rfl rfl ?_
  refine j_iconst (v := 0) C dX4_reckon_1 rfl ?_
  refine j_put C dX4_reckon_2 jp_RX4_45 (wO cRk) (Nat.le_of_ble_eq_true rfl) rfl rfl (sO cRk 1 _ rfl) ?_
  refine j_aload_n C dX4_reckon_5 rfl rfl ?_
  refine j_iload_n C dX4_reckon_6 rfl rfl ?_
  refine j_calliv C (c_X7_endOf _ _ _ _ G hG _ q hp hq) dX4_reckon_7 jm_RX4_48 ⟨_, _, _, _, wO (cTx hG), rfl, rfl⟩ ⟨by decide, by decide, by decide, by decide⟩ rfl (Nat.le_of_ble_eq_true rfl) (fun r_7 z_7 hz_7 => ?_)
  obtain ⟨hr, hz⟩ := hz_7; rw [uM_ne (by omega), hb5] at hr; have hr := hr.symm; have hz := hz.symm; subst hr; subst hz
  refine j_sipush (v := 160) C dX4_reckon_10 rfl ?_
  refine j_mmin C dX4_reckon_13 jx_RX4_53 (by decide) (Nat.le_of_ble_eq_true rfl) (by decide) (by decide) ?_
  refine j_top (v' := .int (nI ee)) (vint (if_neg (show ¬ (160 : Int32) < nI ee from nI_nlt (a := 160) hbe (by decide)))) ?_
  refine j_istore_n (lv' := [(3, _), (0, _), (1, _), (2, _)]) C dX4_reckon_16 rfl (by decide) rfl ?_
  refine j_aload_n C dX4_reckon_17 rfl rfl ?_
  refine j_iload_n C dX4_reckon_18 rfl rfl ?_
  refine j_calliv C (c_X7_startOf _ _ _ _ G hG _ q hp hq) dX4_reckon_19 jm_RX4_57 ⟨_, _, _, _, wO (cTx hG), rfl, rfl⟩ ⟨by decide, by decide, by decide, by decide⟩ rfl (Nat.le_of_ble_eq_true rfl) (fun r_19 z_19 hz_19 => ?_)
  obtain ⟨hr, hz⟩ := hz_19; rw [uM_ne (by omega), hst] at hr; have hr := hr.symm; have hz := hz.symm; subst hr; subst hz
  refine j_istore (lv' := [(4, _), (3, _), (0, _), (1, _), (2, _)]) C dX4_reckon_22 (by decide) rfl ?_
  have L_24 : ∀ k : Nat, ∀ (i : Nat) (M' : Nat → Nat → Int32), bb ≤ i → i ≤ ee → ee < i + k → skR M' (ruS e (slS (M (G + 1)) bb i) []) → rkF M M' → J KK (cW (kG KK) a) 0 0 M' [(0, .ref (a 24)), (1, .ref (a G)), (2, .int p), (3, .int (nI ee)), (4, .int (nI i))] 24 [] := by
    intro k
    induction k with
    | zero => intro i M' h1 h2 hk hs hF; omega
    | succ k ih =>
      intro i M' h1 h2 hk hs hF
      have e_i : (nI i).toInt = i := nI_toInt (by omega); have e_ee : (nI ee).toInt = ee := nI_toInt (by omega)
      have hlen := ruS_len (e := e) (slS (M (G + 1)) bb i) []
      rw [slS_len] at hlen; simp only [List.length_nil] at hlen
      refine j_iload C dX4_reckon_24 rfl ?_
      refine j_iload_n C dX4_reckon_26 rfl rfl ?_
      refine j_icmp_ge (tgt := 86) C dX4_reckon_27 (by decide) (fun c_1 => ?_) (fun c_1 => ?_)
      · skip
        have hi : i = ee := by simp only [Int32.lt_iff_toInt_lt, Int32.le_iff_toInt_le, ← Int32.toInt_inj, Int32.reduceToInt, e_i, e_ee] at c_1; omega
        subst hi
        refine j_aload_n C dX4_reckon_86 rfl rfl ?_
        refine j_calliv C (c_X4_pop _ _ _ _  _ hs) dX4_reckon_87 jm_RX4_73 ⟨_, _, _, _, wO cRk, rfl, rfl⟩ ⟨by decide, by decide, by decide, by decide⟩ rfl (Nat.le_of_ble_eq_true rfl) (fun r_87 z_87 hz_87 => ?_)
        obtain ⟨hr, zs_87, zf_87⟩ := hz_87; have hr := hr.symm; subst hr
        refine hret _ _ _ _ dX4_reckon_90 rfl ?_
        rw [hb6]; exact ⟨rfl, rkF_t hF zf_87⟩
      · skip
        have hi : i < ee := by simp only [Int32.lt_iff_toInt_lt, Int32.le_iff_toInt_le, ← Int32.toInt_inj, Int32.reduceToInt, e_i, e_ee] at c_1; omega
        refine j_aload_n C dX4_reckon_30 rfl rfl ?_
        refine j_iload C dX4_reckon_31 rfl ?_
        refine j_calliv C (c_X7_itemAt _ _ _ _ G hG _ i rfl (by omega)) dX4_reckon_33 jm_RX4_60 ⟨_, _, _, _, wO (cTx hG), rfl, rfl⟩ ⟨by decide, by decide, by decide, by decide⟩ rfl (Nat.le_of_ble_eq_true rfl) (fun r_33 z_33 hz_33 => ?_)
        obtain ⟨hr, hz⟩ := hz_33; rw [hF.1 (G + 1) (by omega) (by omega)] at hr; have hr := hr.symm; have hz := hz.symm; subst hr; subst hz
        refine j_istore (lv' := [(5, _), (0, _), (1, _), (2, _), (3, _), (4, _)]) C dX4_reckon_36 (by decide) rfl ?_
        refine j_iload C dX4_reckon_38 rfl ?_
        refine j_if_lt (tgt := 52) C dX4_reckon_40 (by decide) (fun c_2 => ?_) (fun c_2 => ?_)
        · skip
          refine j_iload C dX4_reckon_52 rfl ?_
          refine j_bipush (v := -6) C dX4_reckon_54 rfl ?_
          refine j_icmp_lt (tgt := 73) C dX4_reckon_56 (by decide) (fun c_3 => ?_) (fun c_3 => ?_)
          · skip
            refine j_aload_n C dX4_reckon_73 rfl rfl ?_
            refine j_iload C dX4_reckon_74 rfl ?_
            refine j_ineg C dX4_reckon_76 ?_
            refine j_callvv C (c_X4_operate _ _ _ _ _ _ hs) dX4_reckon_77 jm_RX4_70 ⟨_, _, _, _, wO cRk, rfl, rfl⟩ ⟨by decide, by decide, by decide, by decide⟩ rfl (Nat.le_of_ble_eq_true rfl) (fun z_77 hz_77 => ?_)
            obtain ⟨zs_77, zf_77⟩ := hz_77
            refine j_iinc (lv' := [(4, _), (5, _), (0, _), (1, _), (2, _), (3, _)]) (v := nI (i + 1)) C dX4_reckon_80 rfl (j_inc1 i) (by decide) rfl ?_
            refine j_goto (tgt := 24) C dX4_reckon_83 (by decide) ?_
            refine j_lv (lv' := [(0, _), (1, _), (2, _), (3, _), (4, _)]) rfl ?_
            have hstep : ruS e (slS (M (G + 1)) bb (i + 1)) [] = itS e (M (G + 1) i) (ruS e (slS (M (G + 1)) bb i) []) := by rw [slS_step h1, ruS_app, ruS_one]
            first
              | (refine ih (i + 1) z_46 (by omega) (by omega) (by omega) ?_ (rkF_t hF zf_46)
                 rw [hstep, itS, if_pos (by simp only [Int32.lt_iff_toInt_lt, Int32.le_iff_toInt_le, ← Int32.toInt_inj, Int32.reduceToInt] at *; omega)]; exact zs_46)
              | (refine ih (i + 1) z_67 (by omega) (by omega) (by omega) ?_ (rkF_t hF zf_67)
                 rw [hstep, itS, if_neg (by simp only [Int32.lt_iff_toInt_lt, Int32.le_iff_toInt_le, ← Int32.toInt_inj, Int32.reduceToInt] at *; omega), if_pos (by simp only [Int32.lt_iff_toInt_lt, Int32.le_iff_toInt_le, ← Int32.toInt_inj, Int32.reduceToInt] at *; omega)]; exact zs_67)
              | (refine ih (i + 1) z_77 (by omega) (by omega) (by omega) ?_ (rkF_t hF zf_77)
                 rw [hstep, itS, if_neg (by simp only [Int32.lt_iff_toInt_lt, Int32.le_iff_toInt_le, ← Int32.toInt_inj, Int32.reduceToInt] at *; omega), if_neg (by simp only [Int32.lt_iff_toInt_lt, Int32.le_iff_toInt_le, ← Int32.toInt_inj, Int32.reduceToInt] at *; omega)]; exact zs_77)
          · skip
            refine j_aload_n C dX4_reckon_59 rfl rfl ?_
            refine j_aload_n C dX4_reckon_60 rfl rfl ?_
            refine j_iload C dX4_reckon_61 rfl ?_
            refine j_ineg C dX4_reckon_63 ?_
            refine j_calliv C (c_X4_named _ _ _ _ _ ) dX4_reckon_64 jm_RX4_67 ⟨_, _, _, _, wO cRk, rfl, rfl⟩ ⟨by decide, by decide, by decide, by decide⟩ rfl (Nat.le_of_ble_eq_true rfl) (fun r_64 z_64 hz_64 => ?_)
            obtain ⟨hr, hz⟩ := hz_64; rw [nmS_c (e' := e) (fun i a b => (hF.2 i (by omega)).trans (he i a b))] at hr; have hr := hr.symm; have hz := hz.symm; subst hr; subst hz
            refine j_callvv C (c_X4_push _ _ _ _ _ _ hs (by omega)) dX4_reckon_67 jm_RX4_63 ⟨_, _, _, _, wO cRk, rfl, rfl⟩ ⟨by decide, by decide, by decide, by decide⟩ rfl (Nat.le_of_ble_eq_true rfl) (fun z_67 hz_67 => ?_)
            obtain ⟨zs_67, zf_67⟩ := hz_67
            refine j_goto (tgt := 80) C dX4_reckon_70 (by decide) ?_
            refine j_iinc (lv' := [(4, _), (5, _), (0, _), (1, _), (2, _), (3, _)]) (v := nI (i + 1)) C dX4_reckon_80 rfl (j_inc1 i) (by decide) rfl ?_
            refine j_goto (tgt := 24) C dX4_reckon_83 (by decide) ?_
            refine j_lv (lv' := [(0, _), (1, _), (2, _), (3, _), (4, _)]) rfl ?_
            have hstep : ruS e (slS (M (G + 1)) bb (i + 1)) [] = itS e (M (G + 1) i) (ruS e (slS (M (G + 1)) bb i) []) := by rw [slS_step h1, ruS_app, ruS_one]
            first
              | (refine ih (i + 1) z_46 (by omega) (by omega) (by omega) ?_ (rkF_t hF zf_46)
                 rw [hstep, itS, if_pos (by simp only [Int32.lt_iff_toInt_lt, Int32.le_iff_toInt_le, ← Int32.toInt_inj, Int32.reduceToInt] at *; omega)]; exact zs_46)
              | (refine ih (i + 1) z_67 (by omega) (by omega) (by omega) ?_ (rkF_t hF zf_67)
                 rw [hstep, itS, if_neg (by simp only [Int32.lt_iff_toInt_lt, Int32.le_iff_toInt_le, ← Int32.toInt_inj, Int32.reduceToInt] at *; omega), if_pos (by simp only [Int32.lt_iff_toInt_lt, Int32.le_iff_toInt_le, ← Int32.toInt_inj, Int32.reduceToInt] at *; omega)]; exact zs_67)
              | (refine ih (i + 1) z_77 (by omega) (by omega) (by omega) ?_ (rkF_t hF zf_77)
                 rw [hstep, itS, if_neg (by simp only [Int32.lt_iff_toInt_lt, Int32.le_iff_toInt_le, ← Int32.toInt_inj, Int32.reduceToInt] at *; omega), if_neg (by simp only [Int32.lt_iff_toInt_lt, Int32.le_iff_toInt_le, ← Int32.toInt_inj, Int32.reduceToInt] at *; omega)]; exact zs_77)
        · skip
          refine j_aload_n C dX4_reckon_43 rfl rfl ?_
          refine j_iload C dX4_reckon_44 rfl ?_
          refine j_callvv C (c_X4_push _ _ _ _ _ _ hs (by omega)) dX4_reckon_46 jm_RX4_63 ⟨_, _, _, _, wO cRk, rfl, rfl⟩ ⟨by decide, by decide, by decide, by decide⟩ rfl (Nat.le_of_ble_eq_true rfl) (fun z_46 hz_46 => ?_)
          obtain ⟨zs_46, zf_46⟩ := hz_46
          refine j_goto (tgt := 80) C dX4_reckon_49 (by decide) ?_
          refine j_iinc (lv' := [(4, _), (5, _), (0, _), (1, _), (2, _), (3, _)]) (v := nI (i + 1)) C dX4_reckon_80 rfl (j_inc1 i) (by decide) rfl ?_
          refine j_goto (tgt := 24) C dX4_reckon_83 (by decide) ?_
          refine j_lv (lv' := [(0, _), (1, _), (2, _), (3, _), (4, _)]) rfl ?_
          have hstep : ruS e (slS (M (G + 1)) bb (i + 1)) [] = itS e (M (G + 1) i) (ruS e (slS (M (G + 1)) bb i) []) := by rw [slS_step h1, ruS_app, ruS_one]
          first
            | (refine ih (i + 1) z_46 (by omega) (by omega) (by omega) ?_ (rkF_t hF zf_46)
               rw [hstep, itS, if_pos (by simp only [Int32.lt_iff_toInt_lt, Int32.le_iff_toInt_le, ← Int32.toInt_inj, Int32.reduceToInt] at *; omega)]; exact zs_46)
            | (refine ih (i + 1) z_67 (by omega) (by omega) (by omega) ?_ (rkF_t hF zf_67)
               rw [hstep, itS, if_neg (by simp only [Int32.lt_iff_toInt_lt, Int32.le_iff_toInt_le, ← Int32.toInt_inj, Int32.reduceToInt] at *; omega), if_pos (by simp only [Int32.lt_iff_toInt_lt, Int32.le_iff_toInt_le, ← Int32.toInt_inj, Int32.reduceToInt] at *; omega)]; exact zs_67)
            | (refine ih (i + 1) z_77 (by omega) (by omega) (by omega) ?_ (rkF_t hF zf_77)
               rw [hstep, itS, if_neg (by simp only [Int32.lt_iff_toInt_lt, Int32.le_iff_toInt_le, ← Int32.toInt_inj, Int32.reduceToInt] at *; omega), if_neg (by simp only [Int32.lt_iff_toInt_lt, Int32.le_iff_toInt_le, ← Int32.toInt_inj, Int32.reduceToInt] at *; omega)]; exact zs_77)
  refine j_lv (lv' := [(0, _), (1, _), (2, _), (3, _), (4, _)]) rfl ?_
  exact L_24 (ee + 1) bb _ (Nat.le_refl _) hbb (by omega) (by rw [slS_nil]; exact ⟨by rw [uM_s]; rfl, by simp [ruS], fun i h => absurd h (by simp [ruS])⟩) ⟨fun k a b => uM_ne a, fun i a => uM_n a⟩
