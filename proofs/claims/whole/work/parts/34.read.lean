def bI (b : Bool) : Int32 := if b = true then 1 else 0
/-- the reader stands at token p, the text in cell K holds acc -/
def rdX (M : Nat → Nat → Int32) (b : Nat → Int32) (n N K p : Nat) (acc : List Int32) : Prop := scR M n ∧ M 6 = b ∧ M 4 1 = nI p ∧ (M K 2 = nI acc.length ∧ ∀ i, i < acc.length → M (K + 1) i = acc.getD i 0) ∧ acc.length ≤ p ∧ p ≤ N
def frR (M z : Nat → Nat → Int32) (K : Nat) : Prop := (∀ k, k ≠ 4 → k ≠ K → k ≠ K + 1 → z k = M k) ∧ ∀ j, j ≠ 2 → z K j = M K j
theorem frR_r {M : Nat → Nat → Int32} {K : Nat} : frR M M K := ⟨fun _ _ _ _ => rfl, fun _ _ => rfl⟩
theorem frR_t {M N z : Nat → Nat → Int32} {K : Nat} (h : frR M N K) (h2 : frR N z K) : frR M z K := ⟨fun k a b c => (h2.1 k a b c).trans (h.1 k a b c), fun j a => (h2.2 j a).trans (h.2 j a)⟩
theorem rdX_at {M : Nat → Nat → Int32} {b : Nat → Int32} {n N K p : Nat} {acc : List Int32} (hK : isTx K) (h : rdX M b n N K p acc) (q : Nat) (hq : q ≤ N) (hl : acc.length ≤ q) : rdX (uM M 4 1 (nI q)) b n N K q acc := by
  have := Tx24 hK
  obtain ⟨h1, h2, h3, h4, h5, h6⟩ := h
  exact ⟨scR_c h1 (uM_ne (by decide)) (uM_ne (by decide)) (uM_ne (by decide)) (uM_ne (by decide)) (uM_ne (by decide)), by rw [uM_ne (by decide)]; exact h2, uM_s, by rw [uM_ne (by omega), uM_ne (by omega)]; exact h4, hl, hq⟩
theorem frR_at {M : Nat → Nat → Int32} {K q : Nat} (hK : isTx K) : frR M (uM M 4 1 (nI q)) K := ⟨fun k a _ _ => uM_ne a, fun j _ => by rw [uM_ne (by have := Tx24 hK; omega)]⟩
theorem rdX_keep {M : Nat → Nat → Int32} {b : Nat → Int32} {n N K p : Nat} {acc : List Int32} {v : Int32} (hK : isTx K) (h : rdX M b n N K p acc) (hl : acc.length + 1 ≤ p) : rdX (uM (uM M (K + 1) acc.length v) K 2 (nI (acc.length + 1))) b n N K p (acc ++ [v]) := by
  have := Tx24 hK
  obtain ⟨h1, h2, h3, h4, h5, h6⟩ := h
  refine ⟨scR_c h1 ?_ ?_ ?_ ?_ ?_, ?_, ?_, ⟨?_, fun i hi => ?_⟩, by simpa using hl, h6⟩
  · rw [uM_ne (by omega), uM_ne (by omega)]
  · rw [uM_ne (by omega), uM_ne (by omega)]
  · rw [uM_ne (by omega), uM_ne (by omega)]
  · rw [uM_ne (by omega), uM_ne (by omega)]
  · rw [uM_ne (by omega), uM_ne (by omega)]
  · rw [uM_ne (by omega), uM_ne (by omega)]; exact h2
  · rw [uM_ne (by omega), uM_ne (by omega)]; exact h3
  · rw [uM_s, List.length_append]; rfl
  · rw [uM_ne (by omega)]
    simp only [List.length_append, List.length_singleton] at hi
    by_cases e : i = acc.length
    · subst e; rw [uM_s]; simp
    · rw [uM_n e, h4.2 i (by omega), List.getD_eq_getElem?_getD, List.getD_eq_getElem?_getD, List.getElem?_append_left (by omega)]
theorem frR_keep {M : Nat → Nat → Int32} {K n : Nat} {v : Int32} (hK : isTx K) : frR M (uM (uM M (K + 1) n v) K 2 (nI (n + 1))) K := ⟨fun k _ a c => by rw [uM_ne a, uM_ne c], fun j a => by rw [uM_n a, uM_ne (by omega)]⟩
/-- a contract of the reader's methods -/
def CtR (l : Launch) (g : jG) (a : Nat → Nat) (y : MethodName) (cc : ByteArray) (nL fr lo K : Nat) (b : Nat → Int32) (n N : Nat) (op : Int32) (f : PF) : Prop := ∀ (M : Nat → Nat → Int32) (p : Nat) (acc : List Int32), rdX M b n N K p acc → Ci l g y cc nL .boolean fr lo 0 0 (cW g a) [.ref (a 4), .ref (a K), .int op] M (fun r z => r = bI (f p acc).1 ∧ rdX z b n N K (f p acc).2.1 (f p acc).2.2 ∧ frR M z K)
theorem bI_0 {b : Bool} : bI b = 0 ↔ b = false := by cases b <;> simp [bI]
theorem bI_t : bI true = 1 := rfl
theorem bI_f : bI false = 0 := rfl
theorem bI_n {b : Bool} : narrow .boolean (.int (bI b)) = .int (bI b) := by cases b <;> rfl
theorem lpS_y {tc : Nat → Int32} {ok : Int32 → Bool} {f : PF} {k : Nat} {r : PS} (h : r.1 = true ∧ ok (tc r.2.1) = true) : lpS tc ok f (k + 1) r = lpS tc ok f k ((f (r.2.1 + 1) r.2.2).1, (f (r.2.1 + 1) r.2.2).2.1, (f (r.2.1 + 1) r.2.2).2.2 ++ [-(tc r.2.1)]) := by rw [lpS, if_pos h]
theorem lpS_n {tc : Nat → Int32} {ok : Int32 → Bool} {f : PF} {k : Nat} {r : PS} (h : ¬ (r.1 = true ∧ ok (tc r.2.1) = true)) : lpS tc ok f k r = r := by
  cases k with
  | zero => rfl
  | succ k => rw [lpS, if_neg h]

set_option maxHeartbeats 4000000 in
set_option maxRecDepth 100000 in
theorem c_X3_passed (l : Launch) (g : jG) (a : Nat → Nat) (M : (Nat → Nat → Int32)) (t : Int32) (b : Nat → Int32) (n p : Nat) (hS : scR M n) (hb : M 6 = b) (hp : M 4 1 = nI p) (hp2 : p < 1000) : Ci l g yX3_passed cX3_passed 2 .boolean 1 21 0 0 (cW g a) [.ref (a 4), .int t] M (fun r z => (r = 1 ∧ tcS b n p = t ∧ z = uM M 4 1 (nI (p + 1))) ∨ (r = 0 ∧ ¬ tcS b n p = t ∧ z = M)) := by
  refine mk_i (by decide +kernel) rfl (fun KK hKl hKg C hin hret => ?_)
  subst hKl; subst hKg
  refine j_lv (lv' := [(0, _), (1, _)]) rfl ?_
  refine j_aload_n C dX3_passed_0 rfl rfl ?_
  refine j_get C dX3_passed_1 jf_RX3_12 (wO cRd) rfl ?_
  refine j_aload_n C dX3_passed_4 rfl rfl ?_
  refine j_get C dX3_passed_5 jf_RX3_21 (wO cRd) rfl ?_
  refine j_calliv C (c_X6_tokenAt _ _ _ _ _ n hS p hp hp2) dX3_passed_8 jm_RX3_34 ⟨_, _, _, _, wO cTp, rfl, rfl⟩ ⟨by decide, by decide, by decide, by decide⟩ rfl (Nat.le_of_ble_eq_true rfl) (fun r_8 z_8 hz_8 => ?_)
  obtain ⟨hr, hz⟩ := hz_8; have hz := hz.symm; subst hz; rw [hb] at hr; have hr := hr.symm; subst hr
  refine j_iload_n C dX3_passed_11 rfl rfl ?_
  refine j_icmp_eq (tgt := 17) C dX3_passed_12 (by decide) (fun c_12 => ?_) (fun c_12 => ?_)
  · skip
    refine j_aload_n C dX3_passed_17 rfl rfl ?_
    refine j_dup C dX3_passed_18 rfl ?_
    refine j_get C dX3_passed_19 jf_RX3_21 (wO cRd) rfl ?_
    refine j_iconst (v := 1) C dX3_passed_22 rfl ?_
    refine j_iadd C dX3_passed_23 ?_
    refine j_put C dX3_passed_24 jp_RX3_21 (wO cRd) (Nat.le_of_ble_eq_true rfl) rfl rfl (sO cRd 1 _ rfl) ?_
    refine j_iconst (v := 1) C dX3_passed_27 rfl ?_
    refine hret _ _ _ _ dX3_passed_28 rfl ?_
    exact Or.inl ⟨rfl, c_12, congrArg (uM M 4 1) (by rw [hp, nI_1])⟩
  · skip
    refine j_iconst (v := 0) C dX3_passed_15 rfl ?_
    refine hret _ _ _ _ dX3_passed_16 rfl ?_
    exact Or.inr ⟨rfl, c_12, rfl⟩
set_option maxHeartbeats 4000000 in
set_option maxRecDepth 100000 in
theorem c_X3_readOr (l : Launch) (g : jG) (a : Nat → Nat) (M : (Nat → Nat → Int32)) (K : Nat) (hK : isTx K) (op : Int32) (fr lo fr' lo' : Nat) (hfr : fr' + 1 ≤ fr) (hfr2 : 5 ≤ fr) (hlo : 19 + 5 + lo' ≤ lo) (hlo2 : 60 ≤ lo) (b : Nat → Int32) (n N : Nat) (hN : ∀ k, N ≤ k → (tcS b n) k = 14) (hN2 : N ≤ 160) (f : PF) (hg : gdS (tcS b n) N f) (hf : CtR l g a yX3_readAnd cX3_readAnd 5 fr' lo' K b n N op f) (p : Nat) (acc : List Int32) (hrd : rdX M b n N K p acc) : Ci l g yX3_readOr cX3_readOr 5 .boolean fr lo 0 0 (cW g a) [.ref (a 4), .ref (a K), .int op] M (fun r z => r = bI (seS' (tcS b n) okO f p acc).1 ∧ rdX z b n N K (seS' (tcS b n) okO f p acc).2.1 (seS' (tcS b n) okO f p acc).2.2 ∧ frR M z K) := by
  refine mk_i (by decide +kernel) rfl (fun KK hKl hKg C hin hret => ?_)
  subst hKl; subst hKg
  refine j_lv (lv' := [(0, _), (1, _), (2, _)]) rfl ?_
  have hK5 := Tx24 hK
  refine j_aload_n C dX3_readOr_0 rfl rfl ?_
  refine j_aload_n C dX3_readOr_1 rfl rfl ?_
  refine j_iload_n C dX3_readOr_2 rfl rfl ?_
  refine j_calliv C (hf _ _ _ hrd) dX3_readOr_3 jm_RX3_53 ⟨_, _, _, _, wO cRd, rfl, rfl⟩ ⟨by omega, by omega, by omega, by omega⟩ rfl (Nat.le_of_ble_eq_true rfl) (fun r_3 z_3 hz_3 => ?_)
  obtain ⟨hr, hrd2, hf2⟩ := hz_3
  have hr := hr.symm; subst hr
  refine j_istore_n (lv' := [(3, _), (0, _), (1, _), (2, _)]) C dX3_readOr_6 rfl (by decide) rfl ?_
  refine j_iconst (v := 0) C dX3_readOr_7 rfl ?_
  refine j_istore (lv' := [(4, _), (3, _), (0, _), (1, _), (2, _)]) C dX3_readOr_8 (by decide) rfl ?_
  have L_10 : ∀ k : Nat, ∀ (i : Nat) (R : PS) (M' : Nat → Nat → Int32), i ≤ 160 → 160 < i + k → rdX M' b n N K R.2.1 R.2.2 → frR M M' K → (lpS (tcS b n) okO f 160 (f p acc) = lpS (tcS b n) okO f (160 - i) R) → J KK (cW (kG KK) a) 0 0 M' [(0, .ref (a 4)), (1, .ref (a K)), (2, .int op), (3, .int (bI R.1)), (4, .int (nI i))] 10 [] := by
    intro k
    induction k with
    | zero => intro i R M' h1 hk hrd3 hF hL; omega
    | succ k ih =>
      intro i R M' h1 hk hrd3 hF hL
      have e_i : (nI i).toInt = i := nI_toInt (by omega)
      have hR5 := hrd3.2.2.2.2.2
      refine j_iload C dX3_readOr_10 rfl ?_
      refine j_sipush (v := 160) C dX3_readOr_12 rfl ?_
      refine j_icmp_ge (tgt := 50) C dX3_readOr_15 (by decide) (fun c_1 => ?_) (fun c_1 => ?_)
      · skip
        have hend : lpS (tcS b n) okO f (160 - i) R = R := by rw [show 160 - i = 0 by simp only [Int32.lt_iff_toInt_lt, Int32.le_iff_toInt_le, ← Int32.toInt_inj, Int32.reduceToInt, e_i] at c_1; omega]; rfl
        refine j_iload_n C dX3_readOr_50 rfl rfl ?_
        refine hret _ _ _ _ dX3_readOr_51 bI_n ?_
        have e9 : seS' (tcS b n) okO f p acc = R := by unfold seS'; rw [hL, hend]
        rw [e9]; exact ⟨rfl, hrd3, hF⟩
      · skip
        have hi : i < 160 := by simp only [Int32.lt_iff_toInt_lt, Int32.le_iff_toInt_le, ← Int32.toInt_inj, Int32.reduceToInt, e_i] at c_1; omega
        obtain ⟨m, hm⟩ : ∃ m, 160 - i = m + 1 := ⟨159 - i, by omega⟩
        refine j_iload_n C dX3_readOr_18 rfl rfl ?_
        refine j_if_eq (tgt := 50) C dX3_readOr_19 (by decide) (fun c_2 => ?_) (fun c_2 => ?_)
        · skip
          have hend : lpS (tcS b n) okO f (160 - i) R = R := lpS_fail (bI_0.mp c_2)
          refine j_iload_n C dX3_readOr_50 rfl rfl ?_
          refine hret _ _ _ _ dX3_readOr_51 bI_n ?_
          have e9 : seS' (tcS b n) okO f p acc = R := by unfold seS'; rw [hL, hend]
          rw [e9]; exact ⟨rfl, hrd3, hF⟩
        · skip
          have hR1 : R.1 = true := by
            cases hq : R.1 with
            | true => rfl
            | false => exact absurd (bI_0.mpr hq) c_2
          refine j_aload_n C dX3_readOr_22 rfl rfl ?_
          refine j_bipush (v := 10) C dX3_readOr_23 rfl ?_
          refine j_calliv C (c_X3_passed _ _ _ _ _ b n R.2.1 hrd3.1 hrd3.2.1 hrd3.2.2.1 (by omega)) dX3_readOr_25 jm_RX3_41 ⟨_, _, _, _, wO cRd, rfl, rfl⟩ ⟨by omega, by omega, by omega, by omega⟩ rfl (Nat.le_of_ble_eq_true rfl) (fun r z hz => ?_)
          rcases hz with ⟨rfl, hr_25, hz⟩ | ⟨rfl, hr_25, hz⟩
          · have hz := hz.symm; subst hz
            have hlt : R.2.1 < N := by
              rcases Nat.lt_or_ge R.2.1 N with h | h
              · exact h
              · exact absurd ((hN _ h).symm.trans hr_25) (by decide)
            have hrd4 := rdX_at hK hrd3 (R.2.1 + 1) (by omega) (by have := hrd3.2.2.2.2.1; omega)
            have hgd := hg (R.2.1 + 1) R.2.2 hlt
            have hal := hrd3.2.2.2.2.1
            refine j_if_eq (tgt := 50) C dX3_readOr_28 (by decide) (fun c => absurd c (by decide)) (fun _ => ?_)
            refine j_aload_n C dX3_readOr_31 rfl rfl ?_
            refine j_aload_n C dX3_readOr_32 rfl rfl ?_
            refine j_iload_n C dX3_readOr_33 rfl rfl ?_
            refine j_calliv C (hf _ _ _ hrd4) dX3_readOr_34 jm_RX3_53 ⟨_, _, _, _, wO cRd, rfl, rfl⟩ ⟨by omega, by omega, by omega, by omega⟩ rfl (Nat.le_of_ble_eq_true rfl) (fun r_34 z_34 hz_34 => ?_)
            obtain ⟨hr, hrd9, hf_34⟩ := hz_34
            have hr := hr.symm; subst hr
            refine j_istore_n (lv' := [(3, _), (0, _), (1, _), (2, _), (4, _)]) C dX3_readOr_37 rfl (by decide) rfl ?_
            refine j_aload_n C dX3_readOr_38 rfl rfl ?_
            refine j_bipush (v := -10) C dX3_readOr_39 rfl ?_
            refine j_callvv C (c_X7_keep _ _ _ _ K hK _ (f (R.2.1 + 1) R.2.2).2.2.length hrd9.2.2.2.1.1 (by omega)) dX3_readOr_41 jm_RX3_56 ⟨_, _, _, _, wO (cTx hK), rfl, rfl⟩ ⟨by omega, by omega, by omega, by omega⟩ rfl (Nat.le_of_ble_eq_true rfl) (fun z_41 hz_41 => ?_)
            rw [if_pos (by omega)] at hz_41
            have hz_41 := hz_41.symm; subst hz_41
            have hrd5 := rdX_keep (v := -10) hK hrd9 (by omega)
            refine j_iinc (lv' := [(4, _), (3, _), (0, _), (1, _), (2, _)]) (v := nI (i + 1)) C dX3_readOr_44 rfl (j_inc1 i) (by decide) rfl ?_
            refine j_goto (tgt := 10) C dX3_readOr_47 (by decide) ?_
            refine j_lv (lv' := [(0, _), (1, _), (2, _), (3, _), (4, _)]) rfl ?_
            have hst := hL
            rw [hm, lpS_y ⟨hR1, by rw [hr_25]; rfl⟩, hr_25] at hst
            exact ih (i + 1) ((f (R.2.1 + 1) R.2.2).1, (f (R.2.1 + 1) R.2.2).2.1, (f (R.2.1 + 1) R.2.2).2.2 ++ [-10]) _ (by omega) (by omega) hrd5 (frR_t (frR_t (frR_t hF (frR_at hK)) hf_34) (frR_keep hK)) (by rw [hst, show 160 - (i + 1) = m by omega])
          · have hz := hz.symm; subst hz
            have hend : lpS (tcS b n) okO f (160 - i) R = R := by
              rw [hm, lpS, if_neg]
              intro h
              have h2 := h.2
              simp only [okO, Bool.or_eq_true, beq_iff_eq] at h2
              exact hr_25 h2
            refine j_if_eq (tgt := 50) C dX3_readOr_28 (by decide) (fun _ => ?_) (fun c => absurd (by decide) c)
            refine j_iload_n C dX3_readOr_50 rfl rfl ?_
            refine hret _ _ _ _ dX3_readOr_51 bI_n ?_
            have e9 : seS' (tcS b n) okO f p acc = R := by unfold seS'; rw [hL, hend]
            rw [e9]; exact ⟨rfl, hrd3, hF⟩
  refine j_lv (lv' := [(0, _), (1, _), (2, _), (3, _), (4, _)]) rfl ?_
  exact L_10 161 0 (f p acc) _ (by omega) (by omega) hrd2 hf2 rfl
set_option maxHeartbeats 4000000 in
set_option maxRecDepth 100000 in
theorem c_X3_readAnd (l : Launch) (g : jG) (a : Nat → Nat) (M : (Nat → Nat → Int32)) (K : Nat) (hK : isTx K) (op : Int32) (fr lo fr' lo' : Nat) (hfr : fr' + 1 ≤ fr) (hfr2 : 5 ≤ fr) (hlo : 19 + 5 + lo' ≤ lo) (hlo2 : 60 ≤ lo) (b : Nat → Int32) (n N : Nat) (hN : ∀ k, N ≤ k → (tcS b n) k = 14) (hN2 : N ≤ 160) (f : PF) (hg : gdS (tcS b n) N f) (hf : CtR l g a yX3_readNot cX3_readNot 5 fr' lo' K b n N op f) (p : Nat) (acc : List Int32) (hrd : rdX M b n N K p acc) : Ci l g yX3_readAnd cX3_readAnd 5 .boolean fr lo 0 0 (cW g a) [.ref (a 4), .ref (a K), .int op] M (fun r z => r = bI (seS' (tcS b n) okN f p acc).1 ∧ rdX z b n N K (seS' (tcS b n) okN f p acc).2.1 (seS' (tcS b n) okN f p acc).2.2 ∧ frR M z K) := by
  refine mk_i (by decide +kernel) rfl (fun KK hKl hKg C hin hret => ?_)
  subst hKl; subst hKg
  refine j_lv (lv' := [(0, _), (1, _), (2, _)]) rfl ?_
  have hK5 := Tx24 hK
  refine j_aload_n C dX3_readAnd_0 rfl rfl ?_
  refine j_aload_n C dX3_readAnd_1 rfl rfl ?_
  refine j_iload_n C dX3_readAnd_2 rfl rfl ?_
  refine j_calliv C (hf _ _ _ hrd) dX3_readAnd_3 jm_RX3_59 ⟨_, _, _, _, wO cRd, rfl, rfl⟩ ⟨by omega, by omega, by omega, by omega⟩ rfl (Nat.le_of_ble_eq_true rfl) (fun r_3 z_3 hz_3 => ?_)
  obtain ⟨hr, hrd2, hf2⟩ := hz_3
  have hr := hr.symm; subst hr
  refine j_istore_n (lv' := [(3, _), (0, _), (1, _), (2, _)]) C dX3_readAnd_6 rfl (by decide) rfl ?_
  refine j_iconst (v := 0) C dX3_readAnd_7 rfl ?_
  refine j_istore (lv' := [(4, _), (3, _), (0, _), (1, _), (2, _)]) C dX3_readAnd_8 (by decide) rfl ?_
  have L_10 : ∀ k : Nat, ∀ (i : Nat) (R : PS) (M' : Nat → Nat → Int32), i ≤ 160 → 160 < i + k → rdX M' b n N K R.2.1 R.2.2 → frR M M' K → (lpS (tcS b n) okN f 160 (f p acc) = lpS (tcS b n) okN f (160 - i) R) → J KK (cW (kG KK) a) 0 0 M' [(0, .ref (a 4)), (1, .ref (a K)), (2, .int op), (3, .int (bI R.1)), (4, .int (nI i))] 10 [] := by
    intro k
    induction k with
    | zero => intro i R M' h1 hk hrd3 hF hL; omega
    | succ k ih =>
      intro i R M' h1 hk hrd3 hF hL
      have e_i : (nI i).toInt = i := nI_toInt (by omega)
      have hR5 := hrd3.2.2.2.2.2
      refine j_iload C dX3_readAnd_10 rfl ?_
      refine j_sipush (v := 160) C dX3_readAnd_12 rfl ?_
      refine j_icmp_ge (tgt := 50) C dX3_readAnd_15 (by decide) (fun c_1 => ?_) (fun c_1 => ?_)
      · skip
        have hend : lpS (tcS b n) okN f (160 - i) R = R := by rw [show 160 - i = 0 by simp only [Int32.lt_iff_toInt_lt, Int32.le_iff_toInt_le, ← Int32.toInt_inj, Int32.reduceToInt, e_i] at c_1; omega]; rfl
        refine j_iload_n C dX3_readAnd_50 rfl rfl ?_
        refine hret _ _ _ _ dX3_readAnd_51 bI_n ?_
        have e9 : seS' (tcS b n) okN f p acc = R := by unfold seS'; rw [hL, hend]
        rw [e9]; exact ⟨rfl, hrd3, hF⟩
      · skip
        have hi : i < 160 := by simp only [Int32.lt_iff_toInt_lt, Int32.le_iff_toInt_le, ← Int32.toInt_inj, Int32.reduceToInt, e_i] at c_1; omega
        obtain ⟨m, hm⟩ : ∃ m, 160 - i = m + 1 := ⟨159 - i, by omega⟩
        refine j_iload_n C dX3_readAnd_18 rfl rfl ?_
        refine j_if_eq (tgt := 50) C dX3_readAnd_19 (by decide) (fun c_2 => ?_) (fun c_2 => ?_)
        · skip
          have hend : lpS (tcS b n) okN f (160 - i) R = R := lpS_fail (bI_0.mp c_2)
          refine j_iload_n C dX3_readAnd_50 rfl rfl ?_
          refine hret _ _ _ _ dX3_readAnd_51 bI_n ?_
          have e9 : seS' (tcS b n) okN f p acc = R := by unfold seS'; rw [hL, hend]
          rw [e9]; exact ⟨rfl, hrd3, hF⟩
        · skip
          have hR1 : R.1 = true := by
            cases hq : R.1 with
            | true => rfl
            | false => exact absurd (bI_0.mpr hq) c_2
          refine j_aload_n C dX3_readAnd_22 rfl rfl ?_
          refine j_bipush (v := 11) C dX3_readAnd_23 rfl ?_
          refine j_calliv C (c_X3_passed _ _ _ _ _ b n R.2.1 hrd3.1 hrd3.2.1 hrd3.2.2.1 (by omega)) dX3_readAnd_25 jm_RX3_41 ⟨_, _, _, _, wO cRd, rfl, rfl⟩ ⟨by omega, by omega, by omega, by omega⟩ rfl (Nat.le_of_ble_eq_true rfl) (fun r z hz => ?_)
          rcases hz with ⟨rfl, hr_25, hz⟩ | ⟨rfl, hr_25, hz⟩
          · have hz := hz.symm; subst hz
            have hlt : R.2.1 < N := by
              rcases Nat.lt_or_ge R.2.1 N with h | h
              · exact h
              · exact absurd ((hN _ h).symm.trans hr_25) (by decide)
            have hrd4 := rdX_at hK hrd3 (R.2.1 + 1) (by omega) (by have := hrd3.2.2.2.2.1; omega)
            have hgd := hg (R.2.1 + 1) R.2.2 hlt
            have hal := hrd3.2.2.2.2.1
            refine j_if_eq (tgt := 50) C dX3_readAnd_28 (by decide) (fun c => absurd c (by decide)) (fun _ => ?_)
            refine j_aload_n C dX3_readAnd_31 rfl rfl ?_
            refine j_aload_n C dX3_readAnd_32 rfl rfl ?_
            refine j_iload_n C dX3_readAnd_33 rfl rfl ?_
            refine j_calliv C (hf _ _ _ hrd4) dX3_readAnd_34 jm_RX3_59 ⟨_, _, _, _, wO cRd, rfl, rfl⟩ ⟨by omega, by omega, by omega, by omega⟩ rfl (Nat.le_of_ble_eq_true rfl) (fun r_34 z_34 hz_34 => ?_)
            obtain ⟨hr, hrd9, hf_34⟩ := hz_34
            have hr := hr.symm; subst hr
            refine j_istore_n (lv' := [(3, _), (0, _), (1, _), (2, _), (4, _)]) C dX3_readAnd_37 rfl (by decide) rfl ?_
            refine j_aload_n C dX3_readAnd_38 rfl rfl ?_
            refine j_bipush (v := -11) C dX3_readAnd_39 rfl ?_
            refine j_callvv C (c_X7_keep _ _ _ _ K hK _ (f (R.2.1 + 1) R.2.2).2.2.length hrd9.2.2.2.1.1 (by omega)) dX3_readAnd_41 jm_RX3_56 ⟨_, _, _, _, wO (cTx hK), rfl, rfl⟩ ⟨by omega, by omega, by omega, by omega⟩ rfl (Nat.le_of_ble_eq_true rfl) (fun z_41 hz_41 => ?_)
            rw [if_pos (by omega)] at hz_41
            have hz_41 := hz_41.symm; subst hz_41
            have hrd5 := rdX_keep (v := -11) hK hrd9 (by omega)
            refine j_iinc (lv' := [(4, _), (3, _), (0, _), (1, _), (2, _)]) (v := nI (i + 1)) C dX3_readAnd_44 rfl (j_inc1 i) (by decide) rfl ?_
            refine j_goto (tgt := 10) C dX3_readAnd_47 (by decide) ?_
            refine j_lv (lv' := [(0, _), (1, _), (2, _), (3, _), (4, _)]) rfl ?_
            have hst := hL
            rw [hm, lpS_y ⟨hR1, by rw [hr_25]; rfl⟩, hr_25] at hst
            exact ih (i + 1) ((f (R.2.1 + 1) R.2.2).1, (f (R.2.1 + 1) R.2.2).2.1, (f (R.2.1 + 1) R.2.2).2.2 ++ [-11]) _ (by omega) (by omega) hrd5 (frR_t (frR_t (frR_t hF (frR_at hK)) hf_34) (frR_keep hK)) (by rw [hst, show 160 - (i + 1) = m by omega])
          · have hz := hz.symm; subst hz
            have hend : lpS (tcS b n) okN f (160 - i) R = R := by
              rw [hm, lpS, if_neg]
              intro h
              have h2 := h.2
              simp only [okN, Bool.or_eq_true, beq_iff_eq] at h2
              exact hr_25 h2
            refine j_if_eq (tgt := 50) C dX3_readAnd_28 (by decide) (fun _ => ?_) (fun c => absurd (by decide) c)
            refine j_iload_n C dX3_readAnd_50 rfl rfl ?_
            refine hret _ _ _ _ dX3_readAnd_51 bI_n ?_
            have e9 : seS' (tcS b n) okN f p acc = R := by unfold seS'; rw [hL, hend]
            rw [e9]; exact ⟨rfl, hrd3, hF⟩
  refine j_lv (lv' := [(0, _), (1, _), (2, _), (3, _), (4, _)]) rfl ?_
  exact L_10 161 0 (f p acc) _ (by omega) (by omega) hrd2 hf2 rfl
set_option maxHeartbeats 4000000 in
set_option maxRecDepth 100000 in
theorem c_X3_readTerm (l : Launch) (g : jG) (a : Nat → Nat) (M : (Nat → Nat → Int32)) (K : Nat) (hK : isTx K) (op : Int32) (fr lo fr' lo' : Nat) (hfr : fr' + 1 ≤ fr) (hfr2 : 5 ≤ fr) (hlo : 19 + 5 + lo' ≤ lo) (hlo2 : 60 ≤ lo) (b : Nat → Int32) (n N : Nat) (hN : ∀ k, N ≤ k → (tcS b n) k = 14) (hN2 : N ≤ 160) (f : PF) (hg : gdS (tcS b n) N f) (hf : CtR l g a yX3_readOne cX3_readOne 5 fr' lo' K b n N op f) (p : Nat) (acc : List Int32) (hrd : rdX M b n N K p acc) : Ci l g yX3_readTerm cX3_readTerm 5 .boolean fr lo 0 0 (cW g a) [.ref (a 4), .ref (a K), .int op] M (fun r z => r = bI (seS' (tcS b n) okM f p acc).1 ∧ rdX z b n N K (seS' (tcS b n) okM f p acc).2.1 (seS' (tcS b n) okM f p acc).2.2 ∧ frR M z K) := by
  refine mk_i (by decide +kernel) rfl (fun KK hKl hKg C hin hret => ?_)
  subst hKl; subst hKg
  refine j_lv (lv' := [(0, _), (1, _), (2, _)]) rfl ?_
  have hK5 := Tx24 hK
  refine j_aload_n C dX3_readTerm_0 rfl rfl ?_
  refine j_aload_n C dX3_readTerm_1 rfl rfl ?_
  refine j_iload_n C dX3_readTerm_2 rfl rfl ?_
  refine j_calliv C (hf _ _ _ hrd) dX3_readTerm_3 jm_RX3_68 ⟨_, _, _, _, wO cRd, rfl, rfl⟩ ⟨by omega, by omega, by omega, by omega⟩ rfl (Nat.le_of_ble_eq_true rfl) (fun r_3 z_3 hz_3 => ?_)
  obtain ⟨hr, hrd2, hf2⟩ := hz_3
  have hr := hr.symm; subst hr
  refine j_istore_n (lv' := [(3, _), (0, _), (1, _), (2, _)]) C dX3_readTerm_6 rfl (by decide) rfl ?_
  refine j_iconst (v := 0) C dX3_readTerm_7 rfl ?_
  refine j_istore (lv' := [(4, _), (3, _), (0, _), (1, _), (2, _)]) C dX3_readTerm_8 (by decide) rfl ?_
  have L_10 : ∀ k : Nat, ∀ (i : Nat) (R : PS) (M' : Nat → Nat → Int32), i ≤ 160 → 160 < i + k → rdX M' b n N K R.2.1 R.2.2 → frR M M' K → (lpS (tcS b n) okM f 160 (f p acc) = lpS (tcS b n) okM f (160 - i) R) → J KK (cW (kG KK) a) 0 0 M' [(0, .ref (a 4)), (1, .ref (a K)), (2, .int op), (3, .int (bI R.1)), (4, .int (nI i))] 10 [] := by
    intro k
    induction k with
    | zero => intro i R M' h1 hk hrd3 hF hL; omega
    | succ k ih =>
      intro i R M' h1 hk hrd3 hF hL
      have e_i : (nI i).toInt = i := nI_toInt (by omega)
      have hR5 := hrd3.2.2.2.2.2
      refine j_iload C dX3_readTerm_10 rfl ?_
      refine j_sipush (v := 160) C dX3_readTerm_12 rfl ?_
      refine j_icmp_ge (tgt := 50) C dX3_readTerm_15 (by decide) (fun c_1 => ?_) (fun c_1 => ?_)
      · skip
        have hend : lpS (tcS b n) okM f (160 - i) R = R := by rw [show 160 - i = 0 by simp only [Int32.lt_iff_toInt_lt, Int32.le_iff_toInt_le, ← Int32.toInt_inj, Int32.reduceToInt, e_i] at c_1; omega]; rfl
        refine j_iload_n C dX3_readTerm_50 rfl rfl ?_
        refine hret _ _ _ _ dX3_readTerm_51 bI_n ?_
        have e9 : seS' (tcS b n) okM f p acc = R := by unfold seS'; rw [hL, hend]
        rw [e9]; exact ⟨rfl, hrd3, hF⟩
      · skip
        have hi : i < 160 := by simp only [Int32.lt_iff_toInt_lt, Int32.le_iff_toInt_le, ← Int32.toInt_inj, Int32.reduceToInt, e_i] at c_1; omega
        obtain ⟨m, hm⟩ : ∃ m, 160 - i = m + 1 := ⟨159 - i, by omega⟩
        refine j_iload_n C dX3_readTerm_18 rfl rfl ?_
        refine j_if_eq (tgt := 50) C dX3_readTerm_19 (by decide) (fun c_2 => ?_) (fun c_2 => ?_)
        · skip
          have hend : lpS (tcS b n) okM f (160 - i) R = R := lpS_fail (bI_0.mp c_2)
          refine j_iload_n C dX3_readTerm_50 rfl rfl ?_
          refine hret _ _ _ _ dX3_readTerm_51 bI_n ?_
          have e9 : seS' (tcS b n) okM f p acc = R := by unfold seS'; rw [hL, hend]
          rw [e9]; exact ⟨rfl, hrd3, hF⟩
        · skip
          have hR1 : R.1 = true := by
            cases hq : R.1 with
            | true => rfl
            | false => exact absurd (bI_0.mpr hq) c_2
          refine j_aload_n C dX3_readTerm_22 rfl rfl ?_
          refine j_bipush (v := 42) C dX3_readTerm_23 rfl ?_
          refine j_calliv C (c_X3_passed _ _ _ _ _ b n R.2.1 hrd3.1 hrd3.2.1 hrd3.2.2.1 (by omega)) dX3_readTerm_25 jm_RX3_41 ⟨_, _, _, _, wO cRd, rfl, rfl⟩ ⟨by omega, by omega, by omega, by omega⟩ rfl (Nat.le_of_ble_eq_true rfl) (fun r z hz => ?_)
          rcases hz with ⟨rfl, hr_25, hz⟩ | ⟨rfl, hr_25, hz⟩
          · have hz := hz.symm; subst hz
            have hlt : R.2.1 < N := by
              rcases Nat.lt_or_ge R.2.1 N with h | h
              · exact h
              · exact absurd ((hN _ h).symm.trans hr_25) (by decide)
            have hrd4 := rdX_at hK hrd3 (R.2.1 + 1) (by omega) (by have := hrd3.2.2.2.2.1; omega)
            have hgd := hg (R.2.1 + 1) R.2.2 hlt
            have hal := hrd3.2.2.2.2.1
            refine j_if_eq (tgt := 50) C dX3_readTerm_28 (by decide) (fun c => absurd c (by decide)) (fun _ => ?_)
            refine j_aload_n C dX3_readTerm_31 rfl rfl ?_
            refine j_aload_n C dX3_readTerm_32 rfl rfl ?_
            refine j_iload_n C dX3_readTerm_33 rfl rfl ?_
            refine j_calliv C (hf _ _ _ hrd4) dX3_readTerm_34 jm_RX3_68 ⟨_, _, _, _, wO cRd, rfl, rfl⟩ ⟨by omega, by omega, by omega, by omega⟩ rfl (Nat.le_of_ble_eq_true rfl) (fun r_34 z_34 hz_34 => ?_)
            obtain ⟨hr, hrd9, hf_34⟩ := hz_34
            have hr := hr.symm; subst hr
            refine j_istore_n (lv' := [(3, _), (0, _), (1, _), (2, _), (4, _)]) C dX3_readTerm_37 rfl (by decide) rfl ?_
            refine j_aload_n C dX3_readTerm_38 rfl rfl ?_
            refine j_bipush (v := -42) C dX3_readTerm_39 rfl ?_
            refine j_callvv C (c_X7_keep _ _ _ _ K hK _ (f (R.2.1 + 1) R.2.2).2.2.length hrd9.2.2.2.1.1 (by omega)) dX3_readTerm_41 jm_RX3_56 ⟨_, _, _, _, wO (cTx hK), rfl, rfl⟩ ⟨by omega, by omega, by omega, by omega⟩ rfl (Nat.le_of_ble_eq_true rfl) (fun z_41 hz_41 => ?_)
            rw [if_pos (by omega)] at hz_41
            have hz_41 := hz_41.symm; subst hz_41
            have hrd5 := rdX_keep (v := -42) hK hrd9 (by omega)
            refine j_iinc (lv' := [(4, _), (3, _), (0, _), (1, _), (2, _)]) (v := nI (i + 1)) C dX3_readTerm_44 rfl (j_inc1 i) (by decide) rfl ?_
            refine j_goto (tgt := 10) C dX3_readTerm_47 (by decide) ?_
            refine j_lv (lv' := [(0, _), (1, _), (2, _), (3, _), (4, _)]) rfl ?_
            have hst := hL
            rw [hm, lpS_y ⟨hR1, by rw [hr_25]; rfl⟩, hr_25] at hst
            exact ih (i + 1) ((f (R.2.1 + 1) R.2.2).1, (f (R.2.1 + 1) R.2.2).2.1, (f (R.2.1 + 1) R.2.2).2.2 ++ [-42]) _ (by omega) (by omega) hrd5 (frR_t (frR_t (frR_t hF (frR_at hK)) hf_34) (frR_keep hK)) (by rw [hst, show 160 - (i + 1) = m by omega])
          · have hz := hz.symm; subst hz
            have hend : lpS (tcS b n) okM f (160 - i) R = R := by
              rw [hm, lpS, if_neg]
              intro h
              have h2 := h.2
              simp only [okM, Bool.or_eq_true, beq_iff_eq] at h2
              exact hr_25 h2
            refine j_if_eq (tgt := 50) C dX3_readTerm_28 (by decide) (fun _ => ?_) (fun c => absurd (by decide) c)
            refine j_iload_n C dX3_readTerm_50 rfl rfl ?_
            refine hret _ _ _ _ dX3_readTerm_51 bI_n ?_
            have e9 : seS' (tcS b n) okM f p acc = R := by unfold seS'; rw [hL, hend]
            rw [e9]; exact ⟨rfl, hrd3, hF⟩
  refine j_lv (lv' := [(0, _), (1, _), (2, _), (3, _), (4, _)]) rfl ?_
  exact L_10 161 0 (f p acc) _ (by omega) (by omega) hrd2 hf2 rfl
