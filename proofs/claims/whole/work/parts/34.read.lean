def bI (b : Bool) : Int32 := if b = true then 1 else 0
/-- the reader stands at token p, the text in cell K holds acc -/
def rdX (M : Nat → Nat → Int32) (b : Nat → Int32) (n N K p : Nat) (acc : List Int32) : Prop := scR M n ∧ M 6 = b ∧ M 4 1 = nI p ∧ (M K 2 = nI acc.length ∧ ∀ i, i < acc.length → M (K + 1) i = acc.getD i 0) ∧ acc.length ≤ p ∧ p ≤ N
def frR (M z : Nat → Nat → Int32) (K : Nat) : Prop := (∀ k, k ≠ 4 → k ≠ K → k ≠ K + 1 → z k = M k) ∧ ∀ j, j ≠ 2 → z K j = M K j
theorem frR_r {M : Nat → Nat → Int32} {K : Nat} : frR M M K := ⟨fun _ _ _ _ => rfl, fun _ _ => rfl⟩
theorem frR_t {M N z : Nat → Nat → Int32} {K : Nat} (h : frR M N K) (h2 : frR N z K) : frR M z K := ⟨fun k a b c => (h2.1 k a b c).trans (h.1 k a b c), fun j a => (h2.2 j a).trans (h.2 j a)⟩
theorem rdX_at {M : Nat → Nat → Int32} {b : Nat → Int32} {n N K p : Nat} {acc : List Int32} (hK : isTx K) (h : rdX M b n N K p acc) (q : Nat) (hq : q ≤ N) (hl : acc.length ≤ q) : rdX (uM M 4 1 (nI q)) b n N K q acc := by
  have := Tx24 hK
  obtain ⟨h1, h2, h3, h4, h5, h6⟩ := h
  exact ⟨scR_c h1 (uM_ne (by decide)) (uM_ne (by decide)) (uM_ne (by decide)) (uM_ne (by decide)) (uM_ne (by decide)), by rw [uM_ne (by decide)]; exact h2, uM_s, by rw [uM_ne (by omega), uM_ne (by omega)]; exact h4, hl, hq⟩
theorem frR_at {M : Nat → Nat → Int32} {K q : Nat} (hK : isTx K) : frR M (uM M 4 1 (nI q)) K := ⟨fun k a _ _ => uM_ne a, fun j _ => by rw [uM_ne (by have := Tx24 hK; omega)]⟩
theorem rdX_keep {M : Nat → Nat → Int32} {b : Nat → Int32} {n N K p : Nat} {acc : List Int32} {v : Int32} (hK : isTx K) (h : rdX M b n N K p acc) (hl : acc.length + 1 ≤ p) : rdX (uM (uM M (K + 1) acc.length v) K 2 (nI (acc.length + 1))) b n N K p (acc ++ [v]) := by
  have := Tx24 hK
  obtain ⟨h1, h2, h3, h4, h5, h6⟩ := h
  refine ⟨scR_c h1 ?_ ?_ ?_ ?_ ?_, ?_, ?_, ⟨?_, fun i hi => ?_⟩, by simpa using hl, h6⟩
  · rw [uM_ne (by omega), uM_ne (by omega)]
  · rw [uM_ne (by omega), uM_ne (by omega)]
  · rw [uM_ne (by omega), uM_ne (by omega)]
  · rw [uM_ne (by omega), uM_ne (by omega)]
  · rw [uM_ne (by omega), uM_ne (by omega)]
  · rw [uM_ne (by omega), uM_ne (by omega)]; exact h2
  · rw [uM_ne (by omega), uM_ne (by omega)]; exact h3
  · rw [uM_s, List.length_append]; rfl
  · rw [uM_ne (by omega)]
    simp only [List.length_append, List.length_singleton] at hi
    by_cases e : i = acc.length
    · subst e; rw [uM_s]; simp
    · rw [uM_n e, h4.2 i (by omega), List.getD_eq_getElem?_getD, List.getD_eq_getElem?_getD, List.getElem?_append_left (by omega)]
theorem frR_keep {M : Nat → Nat → Int32} {K n : Nat} {v : Int32} (hK : isTx K) : frR M (uM (uM M (K + 1) n v) K 2 (nI (n + 1))) K := ⟨fun k _ a c => by rw [uM_ne a, uM_ne c], fun j a => by rw [uM_n a, uM_ne (by omega)]⟩
/-- a contract of the reader's methods -/
def CtR (l : Launch) (g : jG) (a : Nat → Nat) (y : MethodName) (cc : ByteArray) (nL fr lo K : Nat) (b : Nat → Int32) (n N : Nat) (op : Int32) (f : PF) : Prop := ∀ (M : Nat → Nat → Int32) (p : Nat) (acc : List Int32), rdX M b n N K p acc → Ci l g y cc nL .boolean fr lo 0 0 (cW g a) [.ref (a 4), .ref (a K), .int op] M (fun r z => r = bI (f p acc).1 ∧ rdX z b n N K (f p acc).2.1 (f p acc).2.2 ∧ frR M z K)
theorem bI_0 {b : Bool} : bI b = 0 ↔ b = false := by cases b <;> simp [bI]
theorem bI_t : bI true = 1 := rfl
theorem bI_f : bI false = 0 := rfl
theorem bI_n {b : Bool} : narrow .boolean (.int (bI b)) = .int (bI b) := by cases b <;> rfl
theorem lpS_y {tc : Nat → Int32} {ok : Int32 → Bool} {f : PF} {k : Nat} {r : PS} (h : r.1 = true ∧ ok (tc r.2.1) = true) : lpS tc ok f (k + 1) r = lpS tc ok f k ((f (r.2.1 + 1) r.2.2).1, (f (r.2.1 + 1) r.2.2).2.1, (f (r.2.1 + 1) r.2.2).2.2 ++ [-(tc r.2.1)]) := by rw [lpS, if_pos h]
theorem lpS_n {tc : Nat → Int32} {ok : Int32 → Bool} {f : PF} {k : Nat} {r : PS} (h : ¬ (r.1 = true ∧ ok (tc r.2.1) = true)) : lpS tc ok f k r = r := by
  cases k with
  | zero => rfl
  | succ k => rw [lpS, if_neg h]

set_option maxHeartbeats 4000000 in
set_option maxRecDepth 100000 in
theorem c_X3_passed (l : Launch) (g : jG) (a : Nat → Nat) (M : (Nat → Nat → Int32)) (t : Int32) (b : Nat → Int32) (n p : Nat) (hS : scR M n) (hb : M 6 = b) (hp : M 4 1 = nI p) (hp2 : p < 1000) : Ci l g yX3_passed cX3_passed 2 .boolean 1 21 0 0 (cW g a) [.ref (a 4), .int t] M (fun r z => (r = 1 ∧ tcS b n p = t ∧ z = uM M 4 1 (nI (p + 1))) ∨ (r = 0 ∧ ¬ tcS b n p = t ∧ z = M)) := by
  refine mk_i (by decide +kernel) rfl (fun KK hKl hKg C hin hret => ?_)
  subst hKl; subst hKg
  refine j_lv (lv' := [(0, _), (1, _)]) rfl ?_
  refine j_aload_n C dX3_passed_0 rfl rfl ?_
  refine j_get C dX3_passed_1 jf_RX3_12 (wO cRd) rfl ?_
  refine j_aload_n C dX3_passed_4 rfl rfl ?_
  refine j_get C dX3_passed_5 jf_RX3_21 (wO cRd) rfl ?_
  refine j_calliv C (c_X6_tokenAt _ _ _ _ _ n hS p hp hp2) dX3_passed_8 jm_RX3_34 ⟨_, _, _, _, wO cTp, rfl, rfl⟩ ⟨by decide, by decide, by decide, by decide⟩ rfl (Nat.le_of_ble_eq_true rfl) (fun r_8 z_8 hz_8 => ?_)
  obtain ⟨hr, hz⟩ := hz_8; have hz := hz.symm; subst hz; rw [hb] at hr; have hr := hr.symm; subst hr
  refine j_iload_n C dX3_passed_11 rfl rfl ?_
  refine j_icmp_eq (tgt := 17) C dX3_passed_12 (by decide) (fun c_12 => ?_) (fun c_12 => ?_)
  · skip
    refine j_aload_n C dX3_passed_17 rfl rfl ?_
    refine j_dup C dX3_passed_18 rfl ?_
    refine j_get C dX3_passed_19 jf_RX3_21 (wO cRd) rfl ?_
    refine j_iconst (v := 1) C dX3_passed_22 rfl ?_
    refine j_iadd C dX3_passed_23 ?_
    refine j_put C dX3_passed_24 jp_RX3_21 (wO cRd) (Nat.le_of_ble_eq_true rfl) rfl rfl (sO cRd 1 _ rfl) ?_
    refine j_iconst (v := 1) C dX3_passed_27 rfl ?_
    refine hret _ _ _ _ dX3_passed_28 rfl ?_
    exact Or.inl ⟨rfl, c_12, congrArg (uM M 4 1) (by rw [hp, nI_1])⟩
  · skip
    refine j_iconst (v := 0) C dX3_passed_15 rfl ?_
    refine hret _ _ _ _ dX3_passed_16 rfl ?_
    exact Or.inr ⟨rfl, c_12, rfl⟩
set_option maxHeartbeats 4000000 in
set_option maxRecDepth 100000 in
theorem c_X3_readOr (l : Launch) (g : jG) (a : Nat → Nat) (M : (Nat → Nat → Int32)) (K : Nat) (hK : isTx K) (op : Int32) (fr lo fr' lo' : Nat) (hfr : fr' + 1 ≤ fr) (hfr2 : 5 ≤ fr) (hlo : 19 + 5 + lo' ≤ lo) (hlo2 : 60 ≤ lo) (b : Nat → Int32) (n N : Nat) (hN : ∀ k, N ≤ k → (tcS b n) k = 14) (hN2 : N ≤ 160) (f : PF) (hg : gdS (tcS b n) N f) (hf : CtR l g a yX3_readAnd cX3_readAnd 5 fr' lo' K b n N op f) (p : Nat) (acc : List Int32) (hrd : rdX M b n N K p acc) : Ci l g yX3_readOr cX3_readOr 5 .boolean fr lo 0 0 (cW g a) [.ref (a 4), .ref (a K), .int op] M (fun r z => r = bI (seS' (tcS b n) okO f p acc).1 ∧ rdX z b n N K (seS' (tcS b n) okO f p acc).2.1 (seS' (tcS b n) okO f p acc).2.2 ∧ frR M z K) := by
  refine mk_i (by decide +kernel) rfl (fun KK hKl hKg C hin hret => ?_)
  subst hKl; subst hKg
  refine j_lv (lv' := [(0, _), (1, _), (2, _)]) rfl ?_
  have hK5 := Tx24 hK
  refine j_aload_n C dX3_readOr_0 rfl rfl ?_
  refine j_aload_n C dX3_readOr_1 rfl rfl ?_
  refine j_iload_n C dX3_readOr_2 rfl rfl ?_
  refine j_calliv C (hf _ _ _ hrd) dX3_readOr_3 jm_RX3_53 ⟨_, _, _, _, wO cRd, rfl, rfl⟩ ⟨by omega, by omega, by omega, by omega⟩ rfl (Nat.le_of_ble_eq_true rfl) (fun r_3 z_3 hz_3 => ?_)
  obtain ⟨hr, hrd2, hf2⟩ := hz_3
  have hr := hr.symm; subst hr
  refine j_istore_n (lv' := [(3, _), (0, _), (1, _), (2, _)]) C dX3_readOr_6 rfl (by decide) rfl ?_
  refine j_iconst (v := 0) C dX3_readOr_7 rfl ?_
  refine j_istore (lv' := [(4, _), (3, _), (0, _), (1, _), (2, _)]) C dX3_readOr_8 (by decide) rfl ?_
  have L_10 : ∀ k : Nat, ∀ (i : Nat) (R : PS) (M' : Nat → Nat → Int32), i ≤ 160 → 160 < i + k → rdX M' b n N K R.2.1 R.2.2 → frR M M' K → (lpS (tcS b n) okO f 160 (f p acc) = lpS (tcS b n) okO f (160 - i) R) → J KK (cW (kG KK) a) 0 0 M' [(0, .ref (a 4)), (1, .ref (a K)), (2, .int op), (3, .int (bI R.1)), (4, .int (nI i))] 10 [] := by
    intro k
    induction k with
    | zero => intro i R M' h1 hk hrd3 hF hL; omega
    | succ k ih =>
      intro i R M' h1 hk hrd3 hF hL
      have e_i : (nI i).toInt = i := nI_toInt (by omega)
      have hR5 := hrd3.2.2.2.2.2
      refine j_iload C dX3_readOr_10 rfl ?_
      refine j_sipush (v := 160) C dX3_readOr_12 rfl ?_
      refine j_icmp_ge (tgt := 50) C dX3_readOr_15 (by decide) (fun c_1 => ?_) (fun c_1 => ?_)
      · skip
        have hend : lpS (tcS b n) okO f (160 - i) R = R := by rw [show 160 - i = 0 by simp only [Int32.lt_iff_toInt_lt, Int32.le_iff_toInt_le, ← Int32.toInt_inj, Int32.reduceToInt, e_i] at c_1; omega]; rfl
        refine j_iload_n C dX3_readOr_50 rfl rfl ?_
        refine hret _ _ _ _ dX3_readOr_51 (by first | rfl | exact bI_n) ?_
        have e9 : seS' (tcS b n) okO f p acc = R := by unfold seS'; rw [hL, hend]
        rw [e9]; exact ⟨rfl, hrd3, hF⟩
      · skip
        have hi : i < 160 := by simp only [Int32.lt_iff_toInt_lt, Int32.le_iff_toInt_le, ← Int32.toInt_inj, Int32.reduceToInt, e_i] at c_1; omega
        obtain ⟨m, hm⟩ : ∃ m, 160 - i = m + 1 := ⟨159 - i, by omega⟩
        refine j_iload_n C dX3_readOr_18 rfl rfl ?_
        refine j_if_eq (tgt := 50) C dX3_readOr_19 (by decide) (fun c_2 => ?_) (fun c_2 => ?_)
        · skip
          have hend : lpS (tcS b n) okO f (160 - i) R = R := lpS_fail (bI_0.mp c_2)
          refine j_iload_n C dX3_readOr_50 rfl rfl ?_
          refine hret _ _ _ _ dX3_readOr_51 (by first | rfl | exact bI_n) ?_
          have e9 : seS' (tcS b n) okO f p acc = R := by unfold seS'; rw [hL, hend]
          rw [e9]; exact ⟨rfl, hrd3, hF⟩
        · skip
          have hR1 : R.1 = true := by
            cases hq : R.1 with
            | true => rfl
            | false => exact absurd (bI_0.mpr hq) c_2
          refine j_aload_n C dX3_readOr_22 rfl rfl ?_
          refine j_bipush (v := 10) C dX3_readOr_23 rfl ?_
          refine j_calliv C (c_X3_passed _ _ _ _ _ b n R.2.1 hrd3.1 hrd3.2.1 hrd3.2.2.1 (by omega)) dX3_readOr_25 jm_RX3_41 ⟨_, _, _, _, wO cRd, rfl, rfl⟩ ⟨by omega, by omega, by omega, by omega⟩ rfl (Nat.le_of_ble_eq_true rfl) (fun r z hz => ?_)
          rcases hz with ⟨rfl, hr_25, hz⟩ | ⟨rfl, hr_25, hz⟩
          · have hz := hz.symm; subst hz
            have hlt : R.2.1 < N := by
              rcases Nat.lt_or_ge R.2.1 N with h | h
              · exact h
              · exact absurd ((hN _ h).symm.trans hr_25) (by decide)
            have hrd4 := rdX_at hK hrd3 (R.2.1 + 1) (by omega) (by have := hrd3.2.2.2.2.1; omega)
            have hgd := hg (R.2.1 + 1) R.2.2 hlt
            have hal := hrd3.2.2.2.2.1
            refine j_if_eq (tgt := 50) C dX3_readOr_28 (by decide) (fun c => absurd c (by decide)) (fun _ => ?_)
            refine j_aload_n C dX3_readOr_31 rfl rfl ?_
            refine j_aload_n C dX3_readOr_32 rfl rfl ?_
            refine j_iload_n C dX3_readOr_33 rfl rfl ?_
            refine j_calliv C (hf _ _ _ hrd4) dX3_readOr_34 jm_RX3_53 ⟨_, _, _, _, wO cRd, rfl, rfl⟩ ⟨by omega, by omega, by omega, by omega⟩ rfl (Nat.le_of_ble_eq_true rfl) (fun r_34 z_34 hz_34 => ?_)
            obtain ⟨hr, hrd9, hf_34⟩ := hz_34
            have hr := hr.symm; subst hr
            refine j_istore_n (lv' := [(3, _), (0, _), (1, _), (2, _), (4, _)]) C dX3_readOr_37 rfl (by decide) rfl ?_
            refine j_aload_n C dX3_readOr_38 rfl rfl ?_
            refine j_bipush (v := -10) C dX3_readOr_39 rfl ?_
            refine j_callvv C (c_X7_keep _ _ _ _ K hK _ (f (R.2.1 + 1) R.2.2).2.2.length hrd9.2.2.2.1.1 (by omega)) dX3_readOr_41 jm_RX3_56 ⟨_, _, _, _, wO (cTx hK), rfl, rfl⟩ ⟨by omega, by omega, by omega, by omega⟩ rfl (Nat.le_of_ble_eq_true rfl) (fun z_41 hz_41 => ?_)
            rw [if_pos (by omega)] at hz_41
            have hz_41 := hz_41.symm; subst hz_41
            have hrd5 := rdX_keep (v := -10) hK hrd9 (by omega)
            refine j_iinc (lv' := [(4, _), (3, _), (0, _), (1, _), (2, _)]) (v := nI (i + 1)) C dX3_readOr_44 rfl (j_inc1 i) (by decide) rfl ?_
            refine j_goto (tgt := 10) C dX3_readOr_47 (by decide) ?_
            refine j_lv (lv' := [(0, _), (1, _), (2, _), (3, _), (4, _)]) rfl ?_
            have hst := hL
            rw [hm, lpS_y ⟨hR1, by rw [hr_25]; rfl⟩, hr_25] at hst
            exact ih (i + 1) ((f (R.2.1 + 1) R.2.2).1, (f (R.2.1 + 1) R.2.2).2.1, (f (R.2.1 + 1) R.2.2).2.2 ++ [-10]) _ (by omega) (by omega) hrd5 (frR_t (frR_t (frR_t hF (frR_at hK)) hf_34) (frR_keep hK)) (by rw [hst, show 160 - (i + 1) = m by omega])
          · have hz := hz.symm; subst hz
            have hend : lpS (tcS b n) okO f (160 - i) R = R := by
              rw [hm, lpS, if_neg]
              intro h
              have h2 := h.2
              simp only [okO, Bool.or_eq_true, beq_iff_eq] at h2
              exact hr_25 h2
            refine j_if_eq (tgt := 50) C dX3_readOr_28 (by decide) (fun _ => ?_) (fun c => absurd (by decide) c)
            refine j_iload_n C dX3_readOr_50 rfl rfl ?_
            refine hret _ _ _ _ dX3_readOr_51 (by first | rfl | exact bI_n) ?_
            have e9 : seS' (tcS b n) okO f p acc = R := by unfold seS'; rw [hL, hend]
            rw [e9]; exact ⟨rfl, hrd3, hF⟩
  refine j_lv (lv' := [(0, _), (1, _), (2, _), (3, _), (4, _)]) rfl ?_
  exact L_10 161 0 (f p acc) _ (by omega) (by omega) hrd2 hf2 rfl
set_option maxHeartbeats 4000000 in
set_option maxRecDepth 100000 in
theorem c_X3_readAnd (l : Launch) (g : jG) (a : Nat → Nat) (M : (Nat → Nat → Int32)) (K : Nat) (hK : isTx K) (op : Int32) (fr lo fr' lo' : Nat) (hfr : fr' + 1 ≤ fr) (hfr2 : 5 ≤ fr) (hlo : 19 + 5 + lo' ≤ lo) (hlo2 : 60 ≤ lo) (b : Nat → Int32) (n N : Nat) (hN : ∀ k, N ≤ k → (tcS b n) k = 14) (hN2 : N ≤ 160) (f : PF) (hg : gdS (tcS b n) N f) (hf : CtR l g a yX3_readNot cX3_readNot 5 fr' lo' K b n N op f) (p : Nat) (acc : List Int32) (hrd : rdX M b n N K p acc) : Ci l g yX3_readAnd cX3_readAnd 5 .boolean fr lo 0 0 (cW g a) [.ref (a 4), .ref (a K), .int op] M (fun r z => r = bI (seS' (tcS b n) okN f p acc).1 ∧ rdX z b n N K (seS' (tcS b n) okN f p acc).2.1 (seS' (tcS b n) okN f p acc).2.2 ∧ frR M z K) := by
  refine mk_i (by decide +kernel) rfl (fun KK hKl hKg C hin hret => ?_)
  subst hKl; subst hKg
  refine j_lv (lv' := [(0, _), (1, _), (2, _)]) rfl ?_
  have hK5 := Tx24 hK
  refine j_aload_n C dX3_readAnd_0 rfl rfl ?_
  refine j_aload_n C dX3_readAnd_1 rfl rfl ?_
  refine j_iload_n C dX3_readAnd_2 rfl rfl ?_
  refine j_calliv C (hf _ _ _ hrd) dX3_readAnd_3 jm_RX3_59 ⟨_, _, _, _, wO cRd, rfl, rfl⟩ ⟨by omega, by omega, by omega, by omega⟩ rfl (Nat.le_of_ble_eq_true rfl) (fun r_3 z_3 hz_3 => ?_)
  obtain ⟨hr, hrd2, hf2⟩ := hz_3
  have hr := hr.symm; subst hr
  refine j_istore_n (lv' := [(3, _), (0, _), (1, _), (2, _)]) C dX3_readAnd_6 rfl (by decide) rfl ?_
  refine j_iconst (v := 0) C dX3_readAnd_7 rfl ?_
  refine j_istore (lv' := [(4, _), (3, _), (0, _), (1, _), (2, _)]) C dX3_readAnd_8 (by decide) rfl ?_
  have L_10 : ∀ k : Nat, ∀ (i : Nat) (R : PS) (M' : Nat → Nat → Int32), i ≤ 160 → 160 < i + k → rdX M' b n N K R.2.1 R.2.2 → frR M M' K → (lpS (tcS b n) okN f 160 (f p acc) = lpS (tcS b n) okN f (160 - i) R) → J KK (cW (kG KK) a) 0 0 M' [(0, .ref (a 4)), (1, .ref (a K)), (2, .int op), (3, .int (bI R.1)), (4, .int (nI i))] 10 [] := by
    intro k
    induction k with
    | zero => intro i R M' h1 hk hrd3 hF hL; omega
    | succ k ih =>
      intro i R M' h1 hk hrd3 hF hL
      have e_i : (nI i).toInt = i := nI_toInt (by omega)
      have hR5 := hrd3.2.2.2.2.2
      refine j_iload C dX3_readAnd_10 rfl ?_
      refine j_sipush (v := 160) C dX3_readAnd_12 rfl ?_
      refine j_icmp_ge (tgt := 50) C dX3_readAnd_15 (by decide) (fun c_1 => ?_) (fun c_1 => ?_)
      · skip
        have hend : lpS (tcS b n) okN f (160 - i) R = R := by rw [show 160 - i = 0 by simp only [Int32.lt_iff_toInt_lt, Int32.le_iff_toInt_le, ← Int32.toInt_inj, Int32.reduceToInt, e_i] at c_1; omega]; rfl
        refine j_iload_n C dX3_readAnd_50 rfl rfl ?_
        refine hret _ _ _ _ dX3_readAnd_51 (by first | rfl | exact bI_n) ?_
        have e9 : seS' (tcS b n) okN f p acc = R := by unfold seS'; rw [hL, hend]
        rw [e9]; exact ⟨rfl, hrd3, hF⟩
      · skip
        have hi : i < 160 := by simp only [Int32.lt_iff_toInt_lt, Int32.le_iff_toInt_le, ← Int32.toInt_inj, Int32.reduceToInt, e_i] at c_1; omega
        obtain ⟨m, hm⟩ : ∃ m, 160 - i = m + 1 := ⟨159 - i, by omega⟩
        refine j_iload_n C dX3_readAnd_18 rfl rfl ?_
        refine j_if_eq (tgt := 50) C dX3_readAnd_19 (by decide) (fun c_2 => ?_) (fun c_2 => ?_)
        · skip
          have hend : lpS (tcS b n) okN f (160 - i) R = R := lpS_fail (bI_0.mp c_2)
          refine j_iload_n C dX3_readAnd_50 rfl rfl ?_
          refine hret _ _ _ _ dX3_readAnd_51 (by first | rfl | exact bI_n) ?_
          have e9 : seS' (tcS b n) okN f p acc = R := by unfold seS'; rw [hL, hend]
          rw [e9]; exact ⟨rfl, hrd3, hF⟩
        · skip
          have hR1 : R.1 = true := by
            cases hq : R.1 with
            | true => rfl
            | false => exact absurd (bI_0.mpr hq) c_2
          refine j_aload_n C dX3_readAnd_22 rfl rfl ?_
          refine j_bipush (v := 11) C dX3_readAnd_23 rfl ?_
          refine j_calliv C (c_X3_passed _ _ _ _ _ b n R.2.1 hrd3.1 hrd3.2.1 hrd3.2.2.1 (by omega)) dX3_readAnd_25 jm_RX3_41 ⟨_, _, _, _, wO cRd, rfl, rfl⟩ ⟨by omega, by omega, by omega, by omega⟩ rfl (Nat.le_of_ble_eq_true rfl) (fun r z hz => ?_)
          rcases hz with ⟨rfl, hr_25, hz⟩ | ⟨rfl, hr_25, hz⟩
          · have hz := hz.symm; subst hz
            have hlt : R.2.1 < N := by
              rcases Nat.lt_or_ge R.2.1 N with h | h
              · exact h
              · exact absurd ((hN _ h).symm.trans hr_25) (by decide)
            have hrd4 := rdX_at hK hrd3 (R.2.1 + 1) (by omega) (by have := hrd3.2.2.2.2.1; omega)
            have hgd := hg (R.2.1 + 1) R.2.2 hlt
            have hal := hrd3.2.2.2.2.1
            refine j_if_eq (tgt := 50) C dX3_readAnd_28 (by decide) (fun c => absurd c (by decide)) (fun _ => ?_)
            refine j_aload_n C dX3_readAnd_31 rfl rfl ?_
            refine j_aload_n C dX3_readAnd_32 rfl rfl ?_
            refine j_iload_n C dX3_readAnd_33 rfl rfl ?_
            refine j_calliv C (hf _ _ _ hrd4) dX3_readAnd_34 jm_RX3_59 ⟨_, _, _, _, wO cRd, rfl, rfl⟩ ⟨by omega, by omega, by omega, by omega⟩ rfl (Nat.le_of_ble_eq_true rfl) (fun r_34 z_34 hz_34 => ?_)
            obtain ⟨hr, hrd9, hf_34⟩ := hz_34
            have hr := hr.symm; subst hr
            refine j_istore_n (lv' := [(3, _), (0, _), (1, _), (2, _), (4, _)]) C dX3_readAnd_37 rfl (by decide) rfl ?_
            refine j_aload_n C dX3_readAnd_38 rfl rfl ?_
            refine j_bipush (v := -11) C dX3_readAnd_39 rfl ?_
            refine j_callvv C (c_X7_keep _ _ _ _ K hK _ (f (R.2.1 + 1) R.2.2).2.2.length hrd9.2.2.2.1.1 (by omega)) dX3_readAnd_41 jm_RX3_56 ⟨_, _, _, _, wO (cTx hK), rfl, rfl⟩ ⟨by omega, by omega, by omega, by omega⟩ rfl (Nat.le_of_ble_eq_true rfl) (fun z_41 hz_41 => ?_)
            rw [if_pos (by omega)] at hz_41
            have hz_41 := hz_41.symm; subst hz_41
            have hrd5 := rdX_keep (v := -11) hK hrd9 (by omega)
            refine j_iinc (lv' := [(4, _), (3, _), (0, _), (1, _), (2, _)]) (v := nI (i + 1)) C dX3_readAnd_44 rfl (j_inc1 i) (by decide) rfl ?_
            refine j_goto (tgt := 10) C dX3_readAnd_47 (by decide) ?_
            refine j_lv (lv' := [(0, _), (1, _), (2, _), (3, _), (4, _)]) rfl ?_
            have hst := hL
            rw [hm, lpS_y ⟨hR1, by rw [hr_25]; rfl⟩, hr_25] at hst
            exact ih (i + 1) ((f (R.2.1 + 1) R.2.2).1, (f (R.2.1 + 1) R.2.2).2.1, (f (R.2.1 + 1) R.2.2).2.2 ++ [-11]) _ (by omega) (by omega) hrd5 (frR_t (frR_t (frR_t hF (frR_at hK)) hf_34) (frR_keep hK)) (by rw [hst, show 160 - (i + 1) = m by omega])
          · have hz := hz.symm; subst hz
            have hend : lpS (tcS b n) okN f (160 - i) R = R := by
              rw [hm, lpS, if_neg]
              intro h
              have h2 := h.2
              simp only [okN, Bool.or_eq_true, beq_iff_eq] at h2
              exact hr_25 h2
            refine j_if_eq (tgt := 50) C dX3_readAnd_28 (by decide) (fun _ => ?_) (fun c => absurd (by decide) c)
            refine j_iload_n C dX3_readAnd_50 rfl rfl ?_
            refine hret _ _ _ _ dX3_readAnd_51 (by first | rfl | exact bI_n) ?_
            have e9 : seS' (tcS b n) okN f p acc = R := by unfold seS'; rw [hL, hend]
            rw [e9]; exact ⟨rfl, hrd3, hF⟩
  refine j_lv (lv' := [(0, _), (1, _), (2, _), (3, _), (4, _)]) rfl ?_
  exact L_10 161 0 (f p acc) _ (by omega) (by omega) hrd2 hf2 rfl
set_option maxHeartbeats 4000000 in
set_option maxRecDepth 100000 in
theorem c_X3_readTerm (l : Launch) (g : jG) (a : Nat → Nat) (M : (Nat → Nat → Int32)) (K : Nat) (hK : isTx K) (op : Int32) (fr lo fr' lo' : Nat) (hfr : fr' + 1 ≤ fr) (hfr2 : 5 ≤ fr) (hlo : 19 + 5 + lo' ≤ lo) (hlo2 : 60 ≤ lo) (b : Nat → Int32) (n N : Nat) (hN : ∀ k, N ≤ k → (tcS b n) k = 14) (hN2 : N ≤ 160) (f : PF) (hg : gdS (tcS b n) N f) (hf : CtR l g a yX3_readOne cX3_readOne 5 fr' lo' K b n N op f) (p : Nat) (acc : List Int32) (hrd : rdX M b n N K p acc) : Ci l g yX3_readTerm cX3_readTerm 5 .boolean fr lo 0 0 (cW g a) [.ref (a 4), .ref (a K), .int op] M (fun r z => r = bI (seS' (tcS b n) okM f p acc).1 ∧ rdX z b n N K (seS' (tcS b n) okM f p acc).2.1 (seS' (tcS b n) okM f p acc).2.2 ∧ frR M z K) := by
  refine mk_i (by decide +kernel) rfl (fun KK hKl hKg C hin hret => ?_)
  subst hKl; subst hKg
  refine j_lv (lv' := [(0, _), (1, _), (2, _)]) rfl ?_
  have hK5 := Tx24 hK
  refine j_aload_n C dX3_readTerm_0 rfl rfl ?_
  refine j_aload_n C dX3_readTerm_1 rfl rfl ?_
  refine j_iload_n C dX3_readTerm_2 rfl rfl ?_
  refine j_calliv C (hf _ _ _ hrd) dX3_readTerm_3 jm_RX3_68 ⟨_, _, _, _, wO cRd, rfl, rfl⟩ ⟨by omega, by omega, by omega, by omega⟩ rfl (Nat.le_of_ble_eq_true rfl) (fun r_3 z_3 hz_3 => ?_)
  obtain ⟨hr, hrd2, hf2⟩ := hz_3
  have hr := hr.symm; subst hr
  refine j_istore_n (lv' := [(3, _), (0, _), (1, _), (2, _)]) C dX3_readTerm_6 rfl (by decide) rfl ?_
  refine j_iconst (v := 0) C dX3_readTerm_7 rfl ?_
  refine j_istore (lv' := [(4, _), (3, _), (0, _), (1, _), (2, _)]) C dX3_readTerm_8 (by decide) rfl ?_
  have L_10 : ∀ k : Nat, ∀ (i : Nat) (R : PS) (M' : Nat → Nat → Int32), i ≤ 160 → 160 < i + k → rdX M' b n N K R.2.1 R.2.2 → frR M M' K → (lpS (tcS b n) okM f 160 (f p acc) = lpS (tcS b n) okM f (160 - i) R) → J KK (cW (kG KK) a) 0 0 M' [(0, .ref (a 4)), (1, .ref (a K)), (2, .int op), (3, .int (bI R.1)), (4, .int (nI i))] 10 [] := by
    intro k
    induction k with
    | zero => intro i R M' h1 hk hrd3 hF hL; omega
    | succ k ih =>
      intro i R M' h1 hk hrd3 hF hL
      have e_i : (nI i).toInt = i := nI_toInt (by omega)
      have hR5 := hrd3.2.2.2.2.2
      refine j_iload C dX3_readTerm_10 rfl ?_
      refine j_sipush (v := 160) C dX3_readTerm_12 rfl ?_
      refine j_icmp_ge (tgt := 50) C dX3_readTerm_15 (by decide) (fun c_1 => ?_) (fun c_1 => ?_)
      · skip
        have hend : lpS (tcS b n) okM f (160 - i) R = R := by rw [show 160 - i = 0 by simp only [Int32.lt_iff_toInt_lt, Int32.le_iff_toInt_le, ← Int32.toInt_inj, Int32.reduceToInt, e_i] at c_1; omega]; rfl
        refine j_iload_n C dX3_readTerm_50 rfl rfl ?_
        refine hret _ _ _ _ dX3_readTerm_51 (by first | rfl | exact bI_n) ?_
        have e9 : seS' (tcS b n) okM f p acc = R := by unfold seS'; rw [hL, hend]
        rw [e9]; exact ⟨rfl, hrd3, hF⟩
      · skip
        have hi : i < 160 := by simp only [Int32.lt_iff_toInt_lt, Int32.le_iff_toInt_le, ← Int32.toInt_inj, Int32.reduceToInt, e_i] at c_1; omega
        obtain ⟨m, hm⟩ : ∃ m, 160 - i = m + 1 := ⟨159 - i, by omega⟩
        refine j_iload_n C dX3_readTerm_18 rfl rfl ?_
        refine j_if_eq (tgt := 50) C dX3_readTerm_19 (by decide) (fun c_2 => ?_) (fun c_2 => ?_)
        · skip
          have hend : lpS (tcS b n) okM f (160 - i) R = R := lpS_fail (bI_0.mp c_2)
          refine j_iload_n C dX3_readTerm_50 rfl rfl ?_
          refine hret _ _ _ _ dX3_readTerm_51 (by first | rfl | exact bI_n) ?_
          have e9 : seS' (tcS b n) okM f p acc = R := by unfold seS'; rw [hL, hend]
          rw [e9]; exact ⟨rfl, hrd3, hF⟩
        · skip
          have hR1 : R.1 = true := by
            cases hq : R.1 with
            | true => rfl
            | false => exact absurd (bI_0.mpr hq) c_2
          refine j_aload_n C dX3_readTerm_22 rfl rfl ?_
          refine j_bipush (v := 42) C dX3_readTerm_23 rfl ?_
          refine j_calliv C (c_X3_passed _ _ _ _ _ b n R.2.1 hrd3.1 hrd3.2.1 hrd3.2.2.1 (by omega)) dX3_readTerm_25 jm_RX3_41 ⟨_, _, _, _, wO cRd, rfl, rfl⟩ ⟨by omega, by omega, by omega, by omega⟩ rfl (Nat.le_of_ble_eq_true rfl) (fun r z hz => ?_)
          rcases hz with ⟨rfl, hr_25, hz⟩ | ⟨rfl, hr_25, hz⟩
          · have hz := hz.symm; subst hz
            have hlt : R.2.1 < N := by
              rcases Nat.lt_or_ge R.2.1 N with h | h
              · exact h
              · exact absurd ((hN _ h).symm.trans hr_25) (by decide)
            have hrd4 := rdX_at hK hrd3 (R.2.1 + 1) (by omega) (by have := hrd3.2.2.2.2.1; omega)
            have hgd := hg (R.2.1 + 1) R.2.2 hlt
            have hal := hrd3.2.2.2.2.1
            refine j_if_eq (tgt := 50) C dX3_readTerm_28 (by decide) (fun c => absurd c (by decide)) (fun _ => ?_)
            refine j_aload_n C dX3_readTerm_31 rfl rfl ?_
            refine j_aload_n C dX3_readTerm_32 rfl rfl ?_
            refine j_iload_n C dX3_readTerm_33 rfl rfl ?_
            refine j_calliv C (hf _ _ _ hrd4) dX3_readTerm_34 jm_RX3_68 ⟨_, _, _, _, wO cRd, rfl, rfl⟩ ⟨by omega, by omega, by omega, by omega⟩ rfl (Nat.le_of_ble_eq_true rfl) (fun r_34 z_34 hz_34 => ?_)
            obtain ⟨hr, hrd9, hf_34⟩ := hz_34
            have hr := hr.symm; subst hr
            refine j_istore_n (lv' := [(3, _), (0, _), (1, _), (2, _), (4, _)]) C dX3_readTerm_37 rfl (by decide) rfl ?_
            refine j_aload_n C dX3_readTerm_38 rfl rfl ?_
            refine j_bipush (v := -42) C dX3_readTerm_39 rfl ?_
            refine j_callvv C (c_X7_keep _ _ _ _ K hK _ (f (R.2.1 + 1) R.2.2).2.2.length hrd9.2.2.2.1.1 (by omega)) dX3_readTerm_41 jm_RX3_56 ⟨_, _, _, _, wO (cTx hK), rfl, rfl⟩ ⟨by omega, by omega, by omega, by omega⟩ rfl (Nat.le_of_ble_eq_true rfl) (fun z_41 hz_41 => ?_)
            rw [if_pos (by omega)] at hz_41
            have hz_41 := hz_41.symm; subst hz_41
            have hrd5 := rdX_keep (v := -42) hK hrd9 (by omega)
            refine j_iinc (lv' := [(4, _), (3, _), (0, _), (1, _), (2, _)]) (v := nI (i + 1)) C dX3_readTerm_44 rfl (j_inc1 i) (by decide) rfl ?_
            refine j_goto (tgt := 10) C dX3_readTerm_47 (by decide) ?_
            refine j_lv (lv' := [(0, _), (1, _), (2, _), (3, _), (4, _)]) rfl ?_
            have hst := hL
            rw [hm, lpS_y ⟨hR1, by rw [hr_25]; rfl⟩, hr_25] at hst
            exact ih (i + 1) ((f (R.2.1 + 1) R.2.2).1, (f (R.2.1 + 1) R.2.2).2.1, (f (R.2.1 + 1) R.2.2).2.2 ++ [-42]) _ (by omega) (by omega) hrd5 (frR_t (frR_t (frR_t hF (frR_at hK)) hf_34) (frR_keep hK)) (by rw [hst, show 160 - (i + 1) = m by omega])
          · have hz := hz.symm; subst hz
            have hend : lpS (tcS b n) okM f (160 - i) R = R := by
              rw [hm, lpS, if_neg]
              intro h
              have h2 := h.2
              simp only [okM, Bool.or_eq_true, beq_iff_eq] at h2
              exact hr_25 h2
            refine j_if_eq (tgt := 50) C dX3_readTerm_28 (by decide) (fun _ => ?_) (fun c => absurd (by decide) c)
            refine j_iload_n C dX3_readTerm_50 rfl rfl ?_
            refine hret _ _ _ _ dX3_readTerm_51 (by first | rfl | exact bI_n) ?_
            have e9 : seS' (tcS b n) okM f p acc = R := by unfold seS'; rw [hL, hend]
            rw [e9]; exact ⟨rfl, hrd3, hF⟩
  refine j_lv (lv' := [(0, _), (1, _), (2, _), (3, _), (4, _)]) rfl ?_
  exact L_10 161 0 (f p acc) _ (by omega) (by omega) hrd2 hf2 rfl
set_option maxHeartbeats 4000000 in
set_option maxRecDepth 100000 in
theorem c_X3_readSum (l : Launch) (g : jG) (a : Nat → Nat) (M : (Nat → Nat → Int32)) (K : Nat) (hK : isTx K) (op : Int32) (fr lo fr' lo' : Nat) (hfr : fr' + 1 ≤ fr) (hfr2 : 5 ≤ fr) (hlo : 30 + lo' ≤ lo) (hlo2 : 60 ≤ lo) (b : Nat → Int32) (n N : Nat) (hN : ∀ k, N ≤ k → (tcS b n) k = 14) (hN2 : N ≤ 160) (f : PF) (hg : gdS (tcS b n) N f) (hf : CtR l g a yX3_readTerm cX3_readTerm 5 fr' lo' K b n N op f) (p : Nat) (acc : List Int32) (hrd : rdX M b n N K p acc) : Ci l g yX3_readSum cX3_readSum 6 .boolean fr lo 0 0 (cW g a) [.ref (a 4), .ref (a K), .int op] M (fun r z => r = bI (seS' (tcS b n) okA f p acc).1 ∧ rdX z b n N K (seS' (tcS b n) okA f p acc).2.1 (seS' (tcS b n) okA f p acc).2.2 ∧ frR M z K) := by
  refine mk_i (by decide +kernel) rfl (fun KK hKl hKg C hin hret => ?_)
  subst hKl; subst hKg
  refine j_lv (lv' := [(0, _), (1, _), (2, _)]) rfl ?_
  have hK5 := Tx24 hK
  refine j_aload_n C dX3_readSum_0 rfl rfl ?_
  refine j_aload_n C dX3_readSum_1 rfl rfl ?_
  refine j_iload_n C dX3_readSum_2 rfl rfl ?_
  refine j_calliv C (hf _ _ _ hrd) dX3_readSum_3 jm_RX3_65 ⟨_, _, _, _, wO cRd, rfl, rfl⟩ ⟨by omega, by omega, by omega, by omega⟩ rfl (Nat.le_of_ble_eq_true rfl) (fun r_3 z_3 hz_3 => ?_)
  obtain ⟨hr, hrd2, hf2⟩ := hz_3
  have hr := hr.symm; subst hr
  refine j_istore_n (lv' := [(3, _), (0, _), (1, _), (2, _)]) C dX3_readSum_6 rfl (by decide) rfl ?_
  refine j_iconst (v := 0) C dX3_readSum_7 rfl ?_
  refine j_istore (lv' := [(4, _), (3, _), (0, _), (1, _), (2, _)]) C dX3_readSum_8 (by decide) rfl ?_
  have L_10 : ∀ k : Nat, ∀ (i : Nat) (R : PS) (M' : Nat → Nat → Int32), i ≤ 160 → 160 < i + k → rdX M' b n N K R.2.1 R.2.2 → frR M M' K → (lpS (tcS b n) okA f 160 (f p acc) = lpS (tcS b n) okA f (160 - i) R) → J KK (cW (kG KK) a) 0 0 M' [(0, .ref (a 4)), (1, .ref (a K)), (2, .int op), (3, .int (bI R.1)), (4, .int (nI i))] 10 [] := by
    intro k
    induction k with
    | zero => intro i R M' h1 hk hrd3 hF hL; omega
    | succ k ih =>
      intro i R M' h1 hk hrd3 hF hL
      have e_i : (nI i).toInt = i := nI_toInt (by omega)
      have hR5 := hrd3.2.2.2.2.2
      refine j_iload C dX3_readSum_10 rfl ?_
      refine j_sipush (v := 160) C dX3_readSum_12 rfl ?_
      refine j_icmp_ge (tgt := 82) C dX3_readSum_15 (by decide) (fun c_1 => ?_) (fun c_1 => ?_)
      · skip
        have hend : lpS (tcS b n) okA f (160 - i) R = R := by rw [show 160 - i = 0 by simp only [Int32.lt_iff_toInt_lt, Int32.le_iff_toInt_le, ← Int32.toInt_inj, Int32.reduceToInt, e_i] at c_1; omega]; rfl
        refine j_iload_n C dX3_readSum_82 rfl rfl ?_
        refine hret _ _ _ _ dX3_readSum_83 (by first | rfl | exact bI_n) ?_
        have e9 : (seS' (tcS b n) okA f p acc) = R := by unfold seS'; rw [hL, hend]
        rw [e9]; exact ⟨rfl, hrd3, hF⟩
      · skip
        have hi : i < 160 := by simp only [Int32.lt_iff_toInt_lt, Int32.le_iff_toInt_le, ← Int32.toInt_inj, Int32.reduceToInt, e_i] at c_1; omega
        obtain ⟨m, hm⟩ : ∃ m, 160 - i = m + 1 := ⟨159 - i, by omega⟩
        refine j_iload_n C dX3_readSum_18 rfl rfl ?_
        refine j_if_eq (tgt := 82) C dX3_readSum_19 (by decide) (fun c_2 => ?_) (fun c_2 => ?_)
        · skip
          have hend : lpS (tcS b n) okA f (160 - i) R = R := lpS_fail (bI_0.mp c_2)
          refine j_iload_n C dX3_readSum_82 rfl rfl ?_
          refine hret _ _ _ _ dX3_readSum_83 (by first | rfl | exact bI_n) ?_
          have e9 : (seS' (tcS b n) okA f p acc) = R := by unfold seS'; rw [hL, hend]
          rw [e9]; exact ⟨rfl, hrd3, hF⟩
        · skip
          have hR1 : R.1 = true := by
            cases hq : R.1 with
            | true => rfl
            | false => exact absurd (bI_0.mpr hq) c_2
          refine j_aload_n C dX3_readSum_22 rfl rfl ?_
          refine j_get C dX3_readSum_23 jf_RX3_12 (wO cRd) rfl ?_
          refine j_aload_n C dX3_readSum_26 rfl rfl ?_
          refine j_get C dX3_readSum_27 jf_RX3_21 (wO cRd) rfl ?_
          refine j_calliv C (c_X6_tokenAt _ _ _ _ _ n hrd3.1 R.2.1 hrd3.2.2.1 (by omega)) dX3_readSum_30 jm_RX3_34 ⟨_, _, _, _, wO cTp, rfl, rfl⟩ ⟨by omega, by omega, by omega, by omega⟩ rfl (Nat.le_of_ble_eq_true rfl) (fun r_30 z_30 hz_30 => ?_)
          obtain ⟨hr, hz⟩ := hz_30; have hz := hz.symm; subst hz; rw [hrd3.2.1] at hr; have hr := hr.symm; subst hr
          refine j_istore (lv' := [(5, _), (0, _), (1, _), (2, _), (3, _), (4, _)]) C dX3_readSum_33 (by decide) rfl ?_
          refine j_iload C dX3_readSum_35 rfl ?_
          refine j_bipush (v := 43) C dX3_readSum_37 rfl ?_
          refine j_icmp_eq (tgt := 52) C dX3_readSum_39 (by decide) (fun c_39 => ?_) (fun c_39 => ?_)
          · skip
            have hok : okA (tcS b n R.2.1) = true := by rw [c_39]; rfl
            refine j_aload_n C dX3_readSum_52 rfl rfl ?_
            refine j_dup C dX3_readSum_53 rfl ?_
            refine j_get C dX3_readSum_54 jf_RX3_21 (wO cRd) rfl ?_
            refine j_iconst (v := 1) C dX3_readSum_57 rfl ?_
            refine j_iadd C dX3_readSum_58 ?_
            have hlt : R.2.1 < N := by
              rcases Nat.lt_or_ge R.2.1 N with h | h
              · exact h
              · rw [hN _ h] at hok; exact absurd hok (by decide)
            have hrd4 := rdX_at hK hrd3 (R.2.1 + 1) (by omega) (by have := hrd3.2.2.2.2.1; omega)
            have hgd := hg (R.2.1 + 1) R.2.2 hlt
            have hal := hrd3.2.2.2.2.1
            refine j_top (v' := .int (nI (R.2.1 + 1))) (vint (by rw [hrd3.2.2.1, nI_1])) ?_
            refine j_put C dX3_readSum_59 jp_RX3_21 (wO cRd) (Nat.le_of_ble_eq_true rfl) rfl rfl (sO cRd 1 _ rfl) ?_
            refine j_aload_n C dX3_readSum_62 rfl rfl ?_
            refine j_aload_n C dX3_readSum_63 rfl rfl ?_
            refine j_iload_n C dX3_readSum_64 rfl rfl ?_
            refine j_calliv C (hf _ _ _ hrd4) dX3_readSum_65 jm_RX3_65 ⟨_, _, _, _, wO cRd, rfl, rfl⟩ ⟨by omega, by omega, by omega, by omega⟩ rfl (Nat.le_of_ble_eq_true rfl) (fun r_65 z_65 hz_65 => ?_)
            obtain ⟨hr, hrd9, hf_65⟩ := hz_65
            have hr := hr.symm; subst hr
            refine j_istore_n (lv' := [(3, _), (5, _), (0, _), (1, _), (2, _), (4, _)]) C dX3_readSum_68 rfl (by decide) rfl ?_
            refine j_aload_n C dX3_readSum_69 rfl rfl ?_
            refine j_iload C dX3_readSum_70 rfl ?_
            refine j_ineg C dX3_readSum_72 ?_
            refine j_callvv C (c_X7_keep _ _ _ _ K hK _ (f (R.2.1 + 1) R.2.2).2.2.length hrd9.2.2.2.1.1 (by omega)) dX3_readSum_73 jm_RX3_56 ⟨_, _, _, _, wO (cTx hK), rfl, rfl⟩ ⟨by omega, by omega, by omega, by omega⟩ rfl (Nat.le_of_ble_eq_true rfl) (fun z_73 hz_73 => ?_)
            rw [if_pos (by omega)] at hz_73
            have hz_73 := hz_73.symm; subst hz_73
            have hrd5 := rdX_keep (v := -(tcS b n R.2.1)) hK hrd9 (by omega)
            refine j_iinc (lv' := [(4, _), (3, _), (5, _), (0, _), (1, _), (2, _)]) (v := nI (i + 1)) C dX3_readSum_76 rfl (j_inc1 i) (by decide) rfl ?_
            refine j_goto (tgt := 10) C dX3_readSum_79 (by decide) ?_
            refine j_lv (lv' := [(0, _), (1, _), (2, _), (3, _), (4, _)]) rfl ?_
            have hst := hL
            rw [hm, lpS_y ⟨hR1, hok⟩] at hst
            exact ih (i + 1) ((f (R.2.1 + 1) R.2.2).1, (f (R.2.1 + 1) R.2.2).2.1, (f (R.2.1 + 1) R.2.2).2.2 ++ [-(tcS b n R.2.1)]) _ (by omega) (by omega) hrd5 (frR_t (frR_t (frR_t hF (frR_at hK)) hf_65) (frR_keep hK)) (by rw [hst, show 160 - (i + 1) = m by omega])
          · skip
            refine j_iload C dX3_readSum_42 rfl ?_
            refine j_bipush (v := 45) C dX3_readSum_44 rfl ?_
            refine j_icmp_eq (tgt := 52) C dX3_readSum_46 (by decide) (fun c_46 => ?_) (fun c_46 => ?_)
            · skip
              have hok : okA (tcS b n R.2.1) = true := by rw [c_46]; rfl
              refine j_aload_n C dX3_readSum_52 rfl rfl ?_
              refine j_dup C dX3_readSum_53 rfl ?_
              refine j_get C dX3_readSum_54 jf_RX3_21 (wO cRd) rfl ?_
              refine j_iconst (v := 1) C dX3_readSum_57 rfl ?_
              refine j_iadd C dX3_readSum_58 ?_
              have hlt : R.2.1 < N := by
                rcases Nat.lt_or_ge R.2.1 N with h | h
                · exact h
                · rw [hN _ h] at hok; exact absurd hok (by decide)
              have hrd4 := rdX_at hK hrd3 (R.2.1 + 1) (by omega) (by have := hrd3.2.2.2.2.1; omega)
              have hgd := hg (R.2.1 + 1) R.2.2 hlt
              have hal := hrd3.2.2.2.2.1
              refine j_top (v' := .int (nI (R.2.1 + 1))) (vint (by rw [hrd3.2.2.1, nI_1])) ?_
              refine j_put C dX3_readSum_59 jp_RX3_21 (wO cRd) (Nat.le_of_ble_eq_true rfl) rfl rfl (sO cRd 1 _ rfl) ?_
              refine j_aload_n C dX3_readSum_62 rfl rfl ?_
              refine j_aload_n C dX3_readSum_63 rfl rfl ?_
              refine j_iload_n C dX3_readSum_64 rfl rfl ?_
              refine j_calliv C (hf _ _ _ hrd4) dX3_readSum_65 jm_RX3_65 ⟨_, _, _, _, wO cRd, rfl, rfl⟩ ⟨by omega, by omega, by omega, by omega⟩ rfl (Nat.le_of_ble_eq_true rfl) (fun r_65 z_65 hz_65 => ?_)
              obtain ⟨hr, hrd9, hf_65⟩ := hz_65
              have hr := hr.symm; subst hr
              refine j_istore_n (lv' := [(3, _), (5, _), (0, _), (1, _), (2, _), (4, _)]) C dX3_readSum_68 rfl (by decide) rfl ?_
              refine j_aload_n C dX3_readSum_69 rfl rfl ?_
              refine j_iload C dX3_readSum_70 rfl ?_
              refine j_ineg C dX3_readSum_72 ?_
              refine j_callvv C (c_X7_keep _ _ _ _ K hK _ (f (R.2.1 + 1) R.2.2).2.2.length hrd9.2.2.2.1.1 (by omega)) dX3_readSum_73 jm_RX3_56 ⟨_, _, _, _, wO (cTx hK), rfl, rfl⟩ ⟨by omega, by omega, by omega, by omega⟩ rfl (Nat.le_of_ble_eq_true rfl) (fun z_73 hz_73 => ?_)
              rw [if_pos (by omega)] at hz_73
              have hz_73 := hz_73.symm; subst hz_73
              have hrd5 := rdX_keep (v := -(tcS b n R.2.1)) hK hrd9 (by omega)
              refine j_iinc (lv' := [(4, _), (3, _), (5, _), (0, _), (1, _), (2, _)]) (v := nI (i + 1)) C dX3_readSum_76 rfl (j_inc1 i) (by decide) rfl ?_
              refine j_goto (tgt := 10) C dX3_readSum_79 (by decide) ?_
              refine j_lv (lv' := [(0, _), (1, _), (2, _), (3, _), (4, _)]) rfl ?_
              have hst := hL
              rw [hm, lpS_y ⟨hR1, hok⟩] at hst
              exact ih (i + 1) ((f (R.2.1 + 1) R.2.2).1, (f (R.2.1 + 1) R.2.2).2.1, (f (R.2.1 + 1) R.2.2).2.2 ++ [-(tcS b n R.2.1)]) _ (by omega) (by omega) hrd5 (frR_t (frR_t (frR_t hF (frR_at hK)) hf_65) (frR_keep hK)) (by rw [hst, show 160 - (i + 1) = m by omega])
            · skip
              have hend : lpS (tcS b n) okA f (160 - i) R = R := lpS_n (fun h => by
                have h2 := h.2
                simp only [okA, Bool.or_eq_true, beq_iff_eq] at h2
                exact h2.elim c_39 c_46)
              refine j_goto (tgt := 82) C dX3_readSum_49 (by decide) ?_
              refine j_iload_n C dX3_readSum_82 rfl rfl ?_
              refine hret _ _ _ _ dX3_readSum_83 (by first | rfl | exact bI_n) ?_
              have e9 : (seS' (tcS b n) okA f p acc) = R := by unfold seS'; rw [hL, hend]
              rw [e9]; exact ⟨rfl, hrd3, hF⟩
  refine j_lv (lv' := [(0, _), (1, _), (2, _), (3, _), (4, _)]) rfl ?_
  exact L_10 161 0 (f p acc) _ (by omega) (by omega) hrd2 hf2 rfl
set_option maxHeartbeats 4000000 in
set_option maxRecDepth 100000 in
theorem c_X3_readNot (l : Launch) (g : jG) (a : Nat → Nat) (M : (Nat → Nat → Int32)) (K : Nat) (hK : isTx K) (op : Int32) (fr lo fr' lo' : Nat) (hfr : fr' + 1 ≤ fr) (hfr2 : 5 ≤ fr) (hlo : 30 + lo' ≤ lo) (hlo2 : 60 ≤ lo) (b : Nat → Int32) (n N : Nat) (hN : ∀ k, N ≤ k → (tcS b n) k = 14) (hN2 : N ≤ 160) (fr2 lo2 : Nat) (hfr3 : fr2 + 1 ≤ fr) (hlo3 : 30 + lo2 ≤ lo) (d : Nat) (hd : d ≤ 5) (hop : op = nI (5 - d)) (nt sm : PF) (hg1 : d = 0 ∨ gdS (tcS b n) N nt) (hg : gdS (tcS b n) N sm) (hf1 : d = 0 ∨ CtR l g a yX3_readNot cX3_readNot 5 fr2 lo2 K b n N (op + 1) nt) (hf : CtR l g a yX3_readSum cX3_readSum 6 fr' lo' K b n N op sm) (p : Nat) (acc : List Int32) (hrd : rdX M b n N K p acc) : Ci l g yX3_readNot cX3_readNot 5 .boolean fr lo 0 0 (cW g a) [.ref (a 4), .ref (a K), .int op] M (fun r z => r = bI (ntS (tcS b n) d nt sm p acc).1 ∧ rdX z b n N K (ntS (tcS b n) d nt sm p acc).2.1 (ntS (tcS b n) d nt sm p acc).2.2 ∧ frR M z K) := by
  refine mk_i (by decide +kernel) rfl (fun KK hKl hKg C hin hret => ?_)
  subst hKl; subst hKg
  refine j_lv (lv' := [(0, _), (1, _), (2, _)]) rfl ?_
  have hK5 := Tx24 hK
  have hpN := hrd.2.2.2.2.2
  have hal := hrd.2.2.2.2.1
  have e_op : op.toInt = 5 - d := by rw [hop, nI_toInt (by omega)]; omega
  refine j_aload_n C dX3_readNot_0 rfl rfl ?_
  refine j_get C dX3_readNot_1 jf_RX3_12 (wO cRd) rfl ?_
  refine j_aload_n C dX3_readNot_4 rfl rfl ?_
  refine j_get C dX3_readNot_5 jf_RX3_21 (wO cRd) rfl ?_
  refine j_calliv C (c_X6_tokenAt _ _ _ _ _ n hrd.1 p hrd.2.2.1 (by omega)) dX3_readNot_8 jm_RX3_34 ⟨_, _, _, _, wO cTp, rfl, rfl⟩ ⟨by omega, by omega, by omega, by omega⟩ rfl (Nat.le_of_ble_eq_true rfl) (fun r_8 z_8 hz_8 => ?_)
  obtain ⟨hr, hz⟩ := hz_8; have hz := hz.symm; subst hz; rw [hrd.2.1] at hr; have hr := hr.symm; subst hr
  refine j_bipush (v := 12) C dX3_readNot_11 rfl ?_
  refine j_icmp_ne (tgt := 50) C dX3_readNot_13 (by decide) (fun c_13 => ?_) (fun c_13 => ?_)
  · skip
    refine j_aload_n C dX3_readNot_50 rfl rfl ?_
    refine j_aload_n C dX3_readNot_51 rfl rfl ?_
    refine j_iload_n C dX3_readNot_52 rfl rfl ?_
    refine j_calliv C (hf _ _ _ hrd) dX3_readNot_53 jm_RX3_62 ⟨_, _, _, _, wO cRd, rfl, rfl⟩ ⟨by omega, by omega, by omega, by omega⟩ rfl (Nat.le_of_ble_eq_true rfl) (fun r_53 z_53 hz_53 => ?_)
    obtain ⟨hr, hrd9, hf_53⟩ := hz_53
    have hr := hr.symm; subst hr
    have hgd := hg p acc hpN
    refine j_if_ne (tgt := 61) C dX3_readNot_56 (by decide) (fun c_56 => ?_) (fun c_56 => ?_)
    · skip
      have hs1 : ¬ (sm p acc).1 = false := fun h => c_56 (bI_0.mpr h)
      refine j_aload_n C dX3_readNot_61 rfl rfl ?_
      refine j_get C dX3_readNot_62 jf_RX3_12 (wO cRd) rfl ?_
      refine j_aload_n C dX3_readNot_65 rfl rfl ?_
      refine j_get C dX3_readNot_66 jf_RX3_21 (wO cRd) rfl ?_
      refine j_calliv C (c_X6_tokenAt _ _ _ _ _ n hrd9.1 (sm p acc).2.1 hrd9.2.2.1 (by omega)) dX3_readNot_69 jm_RX3_34 ⟨_, _, _, _, wO cTp, rfl, rfl⟩ ⟨by omega, by omega, by omega, by omega⟩ rfl (Nat.le_of_ble_eq_true rfl) (fun r_69 z_69 hz_69 => ?_)
      obtain ⟨hr, hz⟩ := hz_69; have hz := hz.symm; subst hz; rw [hrd9.2.1] at hr; have hr := hr.symm; subst hr
      refine j_istore_n (lv' := [(3, _), (0, _), (1, _), (2, _)]) C dX3_readNot_72 rfl (by decide) rfl ?_
      refine j_iload_n C dX3_readNot_73 rfl rfl ?_
      refine j_bipush (v := 60) C dX3_readNot_74 rfl ?_
      refine j_icmp_eq (tgt := 87) C dX3_readNot_76 (by decide) (fun c_76 => ?_) (fun c_76 => ?_)
      · skip
        have hc : tcS b n (sm p acc).2.1 = 60 ∨ tcS b n (sm p acc).2.1 = 61 := Or.inl c_76
        refine j_aload_n C dX3_readNot_87 rfl rfl ?_
        refine j_dup C dX3_readNot_88 rfl ?_
        refine j_get C dX3_readNot_89 jf_RX3_21 (wO cRd) rfl ?_
        refine j_iconst (v := 1) C dX3_readNot_92 rfl ?_
        refine j_iadd C dX3_readNot_93 ?_
        have hlt : (sm p acc).2.1 < N := by
          rcases Nat.lt_or_ge (sm p acc).2.1 N with h | h
          · exact h
          · rw [hN _ h] at hc; exact absurd hc (by decide)
        have hrd4 := rdX_at hK hrd9 ((sm p acc).2.1 + 1) (by omega) (by omega)
        have hgd2 := hg ((sm p acc).2.1 + 1) (sm p acc).2.2 hlt
        refine j_top (v' := .int (nI ((sm p acc).2.1 + 1))) (vint (by rw [hrd9.2.2.1, nI_1])) ?_
        refine j_put C dX3_readNot_94 jp_RX3_21 (wO cRd) (Nat.le_of_ble_eq_true rfl) rfl rfl (sO cRd 1 _ rfl) ?_
        refine j_aload_n C dX3_readNot_97 rfl rfl ?_
        refine j_aload_n C dX3_readNot_98 rfl rfl ?_
        refine j_iload_n C dX3_readNot_99 rfl rfl ?_
        refine j_calliv C (hf _ _ _ hrd4) dX3_readNot_100 jm_RX3_62 ⟨_, _, _, _, wO cRd, rfl, rfl⟩ ⟨by omega, by omega, by omega, by omega⟩ rfl (Nat.le_of_ble_eq_true rfl) (fun r_100 z_100 hz_100 => ?_)
        obtain ⟨hr, hrd8, hf_100⟩ := hz_100
        have hr := hr.symm; subst hr
        refine j_istore (lv' := [(4, _), (3, _), (0, _), (1, _), (2, _)]) C dX3_readNot_103 (by decide) rfl ?_
        refine j_aload_n C dX3_readNot_105 rfl rfl ?_
        refine j_iload_n C dX3_readNot_106 rfl rfl ?_
        refine j_ineg C dX3_readNot_107 ?_
        refine j_callvv C (c_X7_keep _ _ _ _ K hK _ (sm ((sm p acc).2.1 + 1) (sm p acc).2.2).2.2.length hrd8.2.2.2.1.1 (by omega)) dX3_readNot_108 jm_RX3_56 ⟨_, _, _, _, wO (cTx hK), rfl, rfl⟩ ⟨by omega, by omega, by omega, by omega⟩ rfl (Nat.le_of_ble_eq_true rfl) (fun z_108 hz_108 => ?_)
        rw [if_pos (by omega)] at hz_108
        have hz_108 := hz_108.symm; subst hz_108
        have hrd5 := rdX_keep (v := -(tcS b n (sm p acc).2.1)) hK hrd8 (by omega)
        refine j_iload C dX3_readNot_111 rfl ?_
        refine hret _ _ _ _ dX3_readNot_113 (by first | rfl | exact bI_n) ?_
        have e9 : (ntS (tcS b n) d nt sm p acc) = ((sm ((sm p acc).2.1 + 1) (sm p acc).2.2).1, (sm ((sm p acc).2.1 + 1) (sm p acc).2.2).2.1, (sm ((sm p acc).2.1 + 1) (sm p acc).2.2).2.2 ++ [-(tcS b n (sm p acc).2.1)]) := by unfold ntS; rw [if_neg c_13, if_neg hs1, if_pos hc]
        rw [e9]; exact ⟨rfl, hrd5, frR_t (frR_t (frR_t hf_53 (frR_at hK)) hf_100) (frR_keep hK)⟩
      · skip
        refine j_iload_n C dX3_readNot_79 rfl rfl ?_
        refine j_bipush (v := 61) C dX3_readNot_80 rfl ?_
        refine j_icmp_eq (tgt := 87) C dX3_readNot_82 (by decide) (fun c_82 => ?_) (fun c_82 => ?_)
        · skip
          have hc : tcS b n (sm p acc).2.1 = 60 ∨ tcS b n (sm p acc).2.1 = 61 := Or.inr c_82
          refine j_aload_n C dX3_readNot_87 rfl rfl ?_
          refine j_dup C dX3_readNot_88 rfl ?_
          refine j_get C dX3_readNot_89 jf_RX3_21 (wO cRd) rfl ?_
          refine j_iconst (v := 1) C dX3_readNot_92 rfl ?_
          refine j_iadd C dX3_readNot_93 ?_
          have hlt : (sm p acc).2.1 < N := by
            rcases Nat.lt_or_ge (sm p acc).2.1 N with h | h
            · exact h
            · rw [hN _ h] at hc; exact absurd hc (by decide)
          have hrd4 := rdX_at hK hrd9 ((sm p acc).2.1 + 1) (by omega) (by omega)
          have hgd2 := hg ((sm p acc).2.1 + 1) (sm p acc).2.2 hlt
          refine j_top (v' := .int (nI ((sm p acc).2.1 + 1))) (vint (by rw [hrd9.2.2.1, nI_1])) ?_
          refine j_put C dX3_readNot_94 jp_RX3_21 (wO cRd) (Nat.le_of_ble_eq_true rfl) rfl rfl (sO cRd 1 _ rfl) ?_
          refine j_aload_n C dX3_readNot_97 rfl rfl ?_
          refine j_aload_n C dX3_readNot_98 rfl rfl ?_
          refine j_iload_n C dX3_readNot_99 rfl rfl ?_
          refine j_calliv C (hf _ _ _ hrd4) dX3_readNot_100 jm_RX3_62 ⟨_, _, _, _, wO cRd, rfl, rfl⟩ ⟨by omega, by omega, by omega, by omega⟩ rfl (Nat.le_of_ble_eq_true rfl) (fun r_100 z_100 hz_100 => ?_)
          obtain ⟨hr, hrd8, hf_100⟩ := hz_100
          have hr := hr.symm; subst hr
          refine j_istore (lv' := [(4, _), (3, _), (0, _), (1, _), (2, _)]) C dX3_readNot_103 (by decide) rfl ?_
          refine j_aload_n C dX3_readNot_105 rfl rfl ?_
          refine j_iload_n C dX3_readNot_106 rfl rfl ?_
          refine j_ineg C dX3_readNot_107 ?_
          refine j_callvv C (c_X7_keep _ _ _ _ K hK _ (sm ((sm p acc).2.1 + 1) (sm p acc).2.2).2.2.length hrd8.2.2.2.1.1 (by omega)) dX3_readNot_108 jm_RX3_56 ⟨_, _, _, _, wO (cTx hK), rfl, rfl⟩ ⟨by omega, by omega, by omega, by omega⟩ rfl (Nat.le_of_ble_eq_true rfl) (fun z_108 hz_108 => ?_)
          rw [if_pos (by omega)] at hz_108
          have hz_108 := hz_108.symm; subst hz_108
          have hrd5 := rdX_keep (v := -(tcS b n (sm p acc).2.1)) hK hrd8 (by omega)
          refine j_iload C dX3_readNot_111 rfl ?_
          refine hret _ _ _ _ dX3_readNot_113 (by first | rfl | exact bI_n) ?_
          have e9 : (ntS (tcS b n) d nt sm p acc) = ((sm ((sm p acc).2.1 + 1) (sm p acc).2.2).1, (sm ((sm p acc).2.1 + 1) (sm p acc).2.2).2.1, (sm ((sm p acc).2.1 + 1) (sm p acc).2.2).2.2 ++ [-(tcS b n (sm p acc).2.1)]) := by unfold ntS; rw [if_neg c_13, if_neg hs1, if_pos hc]
          rw [e9]; exact ⟨rfl, hrd5, frR_t (frR_t (frR_t hf_53 (frR_at hK)) hf_100) (frR_keep hK)⟩
        · skip
          have e9 : (ntS (tcS b n) d nt sm p acc) = sm p acc := by unfold ntS; rw [if_neg c_13, if_neg hs1, if_neg (fun h => h.elim c_76 c_82)]
          have e10 : (sm p acc).1 = true := by
            cases hq : (sm p acc).1 with
            | true => rfl
            | false => exact absurd hq hs1
          refine j_iconst (v := 1) C dX3_readNot_85 rfl ?_
          refine hret _ _ _ _ dX3_readNot_86 (by first | rfl | exact bI_n) ?_
          rw [e9]; exact ⟨by rw [e10]; rfl, hrd9, hf_53⟩
    · skip
      have e9 : (ntS (tcS b n) d nt sm p acc) = sm p acc := by unfold ntS; rw [if_neg c_13, if_pos (bI_0.mp c_56)]
      refine j_iconst (v := 0) C dX3_readNot_59 rfl ?_
      refine hret _ _ _ _ dX3_readNot_60 (by first | rfl | exact bI_n) ?_
      rw [e9]; exact ⟨by rw [bI_0.mp c_56]; rfl, hrd9, hf_53⟩
  · skip
    refine j_iload_n C dX3_readNot_16 rfl rfl ?_
    refine j_iconst (v := 5) C dX3_readNot_17 rfl ?_
    refine j_icmp_lt (tgt := 23) C dX3_readNot_18 (by decide) (fun c_18 => ?_) (fun c_18 => ?_)
    · skip
      have hd0 : ¬ d = 0 := by simp only [Int32.lt_iff_toInt_lt, Int32.le_iff_toInt_le, ← Int32.toInt_inj, Int32.reduceToInt, e_op] at c_18; omega
      have hlt : p < N := by
        rcases Nat.lt_or_ge p N with h | h
        · exact h
        · exact absurd ((hN _ h).symm.trans c_13) (by decide)
      have hrd4 := rdX_at hK hrd (p + 1) (by omega) (by omega)
      have hgd := hg1.resolve_left hd0 (p + 1) acc hlt
      refine j_aload_n C dX3_readNot_23 rfl rfl ?_
      refine j_dup C dX3_readNot_24 rfl ?_
      refine j_get C dX3_readNot_25 jf_RX3_21 (wO cRd) rfl ?_
      refine j_iconst (v := 1) C dX3_readNot_28 rfl ?_
      refine j_iadd C dX3_readNot_29 ?_
      refine j_top (v' := .int (nI (p + 1))) (vint (by rw [hrd.2.2.1, nI_1])) ?_
      refine j_put C dX3_readNot_30 jp_RX3_21 (wO cRd) (Nat.le_of_ble_eq_true rfl) rfl rfl (sO cRd 1 _ rfl) ?_
      refine j_aload_n C dX3_readNot_33 rfl rfl ?_
      refine j_aload_n C dX3_readNot_34 rfl rfl ?_
      refine j_iload_n C dX3_readNot_35 rfl rfl ?_
      refine j_iconst (v := 1) C dX3_readNot_36 rfl ?_
      refine j_iadd C dX3_readNot_37 ?_
      refine j_calliv C (hf1.resolve_left hd0 _ _ _ hrd4) dX3_readNot_38 jm_RX3_59 ⟨_, _, _, _, wO cRd, rfl, rfl⟩ ⟨by omega, by omega, by omega, by omega⟩ rfl (Nat.le_of_ble_eq_true rfl) (fun r_38 z_38 hz_38 => ?_)
      obtain ⟨hr, hrd9, hf_38⟩ := hz_38
      have hr := hr.symm; subst hr
      refine j_istore_n (lv' := [(3, _), (0, _), (1, _), (2, _)]) C dX3_readNot_41 rfl (by decide) rfl ?_
      refine j_aload_n C dX3_readNot_42 rfl rfl ?_
      refine j_bipush (v := -12) C dX3_readNot_43 rfl ?_
      refine j_callvv C (c_X7_keep _ _ _ _ K hK _ (nt (p + 1) acc).2.2.length hrd9.2.2.2.1.1 (by omega)) dX3_readNot_45 jm_RX3_56 ⟨_, _, _, _, wO (cTx hK), rfl, rfl⟩ ⟨by omega, by omega, by omega, by omega⟩ rfl (Nat.le_of_ble_eq_true rfl) (fun z_45 hz_45 => ?_)
      rw [if_pos (by omega)] at hz_45
      have hz_45 := hz_45.symm; subst hz_45
      have hrd5 := rdX_keep (v := -12) hK hrd9 (by omega)
      refine j_iload_n C dX3_readNot_48 rfl rfl ?_
      refine hret _ _ _ _ dX3_readNot_49 (by first | rfl | exact bI_n) ?_
      have e9 : (ntS (tcS b n) d nt sm p acc) = ((nt (p + 1) acc).1, (nt (p + 1) acc).2.1, (nt (p + 1) acc).2.2 ++ [-12]) := by unfold ntS; rw [if_pos c_13, if_neg hd0]
      rw [e9]; exact ⟨rfl, hrd5, frR_t (frR_t (frR_at hK) hf_38) (frR_keep hK)⟩
    · skip
      have hd0 : d = 0 := by simp only [Int32.lt_iff_toInt_lt, Int32.le_iff_toInt_le, ← Int32.toInt_inj, Int32.reduceToInt, e_op] at c_18; omega
      have e9 : (ntS (tcS b n) d nt sm p acc) = (false, p, acc) := by unfold ntS; rw [if_pos c_13, if_pos hd0]
      refine j_iconst (v := 0) C dX3_readNot_21 rfl ?_
      refine hret _ _ _ _ dX3_readNot_22 (by first | rfl | exact bI_n) ?_
      rw [e9]; exact ⟨rfl, hrd, frR_r⟩
theorem keep_at {M : Nat → Nat → Int32} {K n p : Nat} {v : Int32} (hK : isTx K) : uM (uM (uM M (K + 1) n v) K 2 (nI (n + 1))) 4 1 (nI p) = uM (uM (uM M 4 1 (nI p)) (K + 1) n v) K 2 (nI (n + 1)) := by
  have := Tx24 hK
  funext k j
  simp only [uM_all]
  by_cases h4 : k = 4
  · subst h4; simp [show ¬ 4 = K by omega, show ¬ 4 = K + 1 by omega]
  · simp [h4]
set_option maxHeartbeats 4000000 in
set_option maxRecDepth 100000 in
theorem c_X3_readOne (l : Launch) (g : jG) (a : Nat → Nat) (M : (Nat → Nat → Int32)) (K : Nat) (hK : isTx K) (op : Int32) (fr lo fr' lo' : Nat) (hfr : fr' + 1 ≤ fr) (hfr2 : 5 ≤ fr) (hlo : 30 + lo' ≤ lo) (hlo2 : 60 ≤ lo) (b : Nat → Int32) (n N : Nat) (hN : ∀ k, N ≤ k → (tcS b n) k = 14) (hN2 : N ≤ 160) (fr2 lo2 : Nat) (hfr3 : fr2 + 1 ≤ fr) (hlo3 : 30 + lo2 ≤ lo) (d : Nat) (hd : d ≤ 5) (hop : op = nI (5 - d)) (o1 e1 : PF) (hg1 : d = 0 ∨ (gdS (tcS b n) N o1 ∧ gdS (tcS b n) N e1)) (hf1 : d = 0 ∨ (CtR l g a yX3_readOne cX3_readOne 5 fr' lo' K b n N (op + 1) o1 ∧ CtR l g a yX3_readOr cX3_readOr 5 fr2 lo2 K b n N (op + 1) e1)) (p : Nat) (acc : List Int32) (hrd : rdX M b n N K p acc) : Ci l g yX3_readOne cX3_readOne 5 .boolean fr lo 0 0 (cW g a) [.ref (a 4), .ref (a K), .int op] M (fun r z => r = bI (oneS (tcS b n) (tnS b n) d o1 e1 p acc).1 ∧ rdX z b n N K (oneS (tcS b n) (tnS b n) d o1 e1 p acc).2.1 (oneS (tcS b n) (tnS b n) d o1 e1 p acc).2.2 ∧ frR M z K) := by
  refine mk_i (by decide +kernel) rfl (fun KK hKl hKg C hin hret => ?_)
  subst hKl; subst hKg
  refine j_lv (lv' := [(0, _), (1, _), (2, _)]) rfl ?_
  have hK5 := Tx24 hK
  have hpN := hrd.2.2.2.2.2
  have hal := hrd.2.2.2.2.1
  have e_op : op.toInt = 5 - d := by rw [hop, nI_toInt (by omega)]; omega
  refine j_aload_n C dX3_readOne_0 rfl rfl ?_
  refine j_get C dX3_readOne_1 jf_RX3_12 (wO cRd) rfl ?_
  refine j_aload_n C dX3_readOne_4 rfl rfl ?_
  refine j_get C dX3_readOne_5 jf_RX3_21 (wO cRd) rfl ?_
  refine j_calliv C (c_X6_tokenAt _ _ _ _ _ n hrd.1 p hrd.2.2.1 (by omega)) dX3_readOne_8 jm_RX3_34 ⟨_, _, _, _, wO cTp, rfl, rfl⟩ ⟨by omega, by omega, by omega, by omega⟩ rfl (Nat.le_of_ble_eq_true rfl) (fun r_8 z_8 hz_8 => ?_)
  obtain ⟨hr, hz⟩ := hz_8; have hz := hz.symm; subst hz; rw [hrd.2.1] at hr; have hr := hr.symm; subst hr
  refine j_istore_n (lv' := [(3, _), (0, _), (1, _), (2, _)]) C dX3_readOne_11 rfl (by decide) rfl ?_
  refine j_iload_n C dX3_readOne_12 rfl rfl ?_
  refine j_bipush (v := 13) C dX3_readOne_13 rfl ?_
  refine j_icmp_ne (tgt := 45) C dX3_readOne_15 (by decide) (fun c_15 => ?_) (fun c_15 => ?_)
  · skip
    refine j_iload_n C dX3_readOne_45 rfl rfl ?_
    refine j_iconst (v := 1) C dX3_readOne_46 rfl ?_
    refine j_icmp_lt (tgt := 74) C dX3_readOne_47 (by decide) (fun c_47 => ?_) (fun c_47 => ?_)
    · skip
      have hc12 : ¬ (1 ≤ tcS b n p ∧ tcS b n p ≤ 6) := fun h => by simp only [Int32.lt_iff_toInt_lt, Int32.le_iff_toInt_le, ← Int32.toInt_inj, Int32.reduceToInt] at c_47 h; omega
      refine j_iload_n C dX3_readOne_74 rfl rfl ?_
      refine j_bipush (v := 45) C dX3_readOne_75 rfl ?_
      refine j_icmp_eq (tgt := 86) C dX3_readOne_77 (by decide) (fun c_77 => ?_) (fun c_77 => ?_)
      · skip
        have hsg : tcS b n p = 45 ∨ tcS b n p = 40 := Or.inl c_77
        refine j_iload_n C dX3_readOne_86 rfl rfl ?_
        refine j_iconst (v := 5) C dX3_readOne_87 rfl ?_
        refine j_icmp_lt (tgt := 93) C dX3_readOne_88 (by decide) (fun c_88 => ?_) (fun c_88 => ?_)
        · skip
          have hd0 : ¬ d = 0 := by simp only [Int32.lt_iff_toInt_lt, Int32.le_iff_toInt_le, ← Int32.toInt_inj, Int32.reduceToInt, e_op] at c_88; omega
          have hlt : p < N := by
            rcases Nat.lt_or_ge p N with h | h
            · exact h
            · rw [hN _ h] at hsg; exact absurd hsg (by decide)
          have hrd4 := rdX_at hK hrd (p + 1) (by omega) (by omega)
          have hgo := (hg1.resolve_left hd0).1 (p + 1) acc hlt
          have hge := (hg1.resolve_left hd0).2 (p + 1) acc hlt
          have hns : ¬ ((¬ tcS b n p = 45 ∧ ¬ tcS b n p = 40) ∨ d = 0) := fun h => h.elim (fun h => hsg.elim h.1 h.2) hd0
          refine j_aload_n C dX3_readOne_93 rfl rfl ?_
          refine j_dup C dX3_readOne_94 rfl ?_
          refine j_get C dX3_readOne_95 jf_RX3_21 (wO cRd) rfl ?_
          refine j_iconst (v := 1) C dX3_readOne_98 rfl ?_
          refine j_iadd C dX3_readOne_99 ?_
          refine j_top (v' := .int (nI (p + 1))) (vint (by rw [hrd.2.2.1, nI_1])) ?_
          refine j_put C dX3_readOne_100 jp_RX3_21 (wO cRd) (Nat.le_of_ble_eq_true rfl) rfl rfl (sO cRd 1 _ rfl) ?_
          refine j_iload_n C dX3_readOne_103 rfl rfl ?_
          refine j_bipush (v := 40) C dX3_readOne_104 rfl ?_
          refine j_icmp_ne (tgt := 135) C dX3_readOne_106 (by decide) (fun c_106 => ?_) (fun c_106 => ?_)
          · skip
            refine j_aload_n C dX3_readOne_135 rfl rfl ?_
            refine j_aload_n C dX3_readOne_136 rfl rfl ?_
            refine j_iload_n C dX3_readOne_137 rfl rfl ?_
            refine j_iconst (v := 1) C dX3_readOne_138 rfl ?_
            refine j_iadd C dX3_readOne_139 ?_
            refine j_calliv C ((hf1.resolve_left hd0).1 _ _ _ hrd4) dX3_readOne_140 jm_RX3_68 ⟨_, _, _, _, wO cRd, rfl, rfl⟩ ⟨by omega, by omega, by omega, by omega⟩ rfl (Nat.le_of_ble_eq_true rfl) (fun r_140 z_140 hz_140 => ?_)
            obtain ⟨hr, hrd9, hf_140⟩ := hz_140
            have hr := hr.symm; subst hr
            refine j_istore (lv' := [(4, _), (3, _), (0, _), (1, _), (2, _)]) C dX3_readOne_143 (by decide) rfl ?_
            refine j_aload_n C dX3_readOne_145 rfl rfl ?_
            refine j_bipush (v := -16) C dX3_readOne_146 rfl ?_
            refine j_callvv C (c_X7_keep _ _ _ _ K hK _ (o1 (p + 1) acc).2.2.length hrd9.2.2.2.1.1 (by omega)) dX3_readOne_148 jm_RX3_56 ⟨_, _, _, _, wO (cTx hK), rfl, rfl⟩ ⟨by omega, by omega, by omega, by omega⟩ rfl (Nat.le_of_ble_eq_true rfl) (fun z_148 hz_148 => ?_)
            rw [if_pos (by omega)] at hz_148
            have hz_148 := hz_148.symm; subst hz_148
            have hrd5 := rdX_keep (v := -16) hK hrd9 (by omega)
            refine j_iload C dX3_readOne_151 rfl ?_
            refine hret _ _ _ _ dX3_readOne_153 (by first | rfl | exact bI_n) ?_
            have e9 : (oneS (tcS b n) (tnS b n) d o1 e1 p acc) = ((o1 (p + 1) acc).1, (o1 (p + 1) acc).2.1, (o1 (p + 1) acc).2.2 ++ [-16]) := by unfold oneS; rw [if_neg c_15, if_neg hc12, if_neg hns, if_neg c_106]
            rw [e9]; exact ⟨rfl, hrd5, frR_t (frR_t (frR_at hK) hf_140) (frR_keep hK)⟩
          · skip
            refine j_aload_n C dX3_readOne_109 rfl rfl ?_
            refine j_aload_n C dX3_readOne_110 rfl rfl ?_
            refine j_iload_n C dX3_readOne_111 rfl rfl ?_
            refine j_iconst (v := 1) C dX3_readOne_112 rfl ?_
            refine j_iadd C dX3_readOne_113 ?_
            refine j_calliv C ((hf1.resolve_left hd0).2 _ _ _ hrd4) dX3_readOne_114 jm_RX3_45 ⟨_, _, _, _, wO cRd, rfl, rfl⟩ ⟨by omega, by omega, by omega, by omega⟩ rfl (Nat.le_of_ble_eq_true rfl) (fun r_114 z_114 hz_114 => ?_)
            obtain ⟨hr, hrd9, hf_114⟩ := hz_114
            have hr := hr.symm; subst hr
            refine j_if_eq (tgt := 133) C dX3_readOne_117 (by decide) (fun c_117 => ?_) (fun c_117 => ?_)
            · skip
              refine j_iconst (v := 0) C dX3_readOne_133 rfl ?_
              refine hret _ _ _ _ dX3_readOne_134 (by first | rfl | exact bI_n) ?_
              first
                | (have e9 : (oneS (tcS b n) (tnS b n) d o1 e1 p acc) = (false, (e1 (p + 1) acc).2.1, (e1 (p + 1) acc).2.2) := by
                     unfold oneS; rw [if_neg c_15, if_neg hc12, if_neg hns, if_pos c_106, if_neg (fun h => by rw [bI_0.mp c_117] at h; exact absurd h.1 (by decide))]
                   rw [e9]; exact ⟨rfl, hrd9, frR_t (frR_at hK) hf_114⟩)
                | (have e9 : (oneS (tcS b n) (tnS b n) d o1 e1 p acc) = (false, (e1 (p + 1) acc).2.1, (e1 (p + 1) acc).2.2) := by
                     unfold oneS; rw [if_neg c_15, if_neg hc12, if_neg hns, if_pos c_106, if_neg (fun h => hr_123 h.2)]
                   rw [e9]; exact ⟨rfl, hrd9, frR_t (frR_at hK) hf_114⟩)
                | (have e9 : (oneS (tcS b n) (tnS b n) d o1 e1 p acc) = (true, (e1 (p + 1) acc).2.1 + 1, (e1 (p + 1) acc).2.2) := by
                     unfold oneS; rw [if_neg c_15, if_neg hc12, if_neg hns, if_pos c_106, if_pos ⟨h1t, hr_123⟩]
                   rw [e9]; exact ⟨rfl, rdX_at hK hrd9 ((e1 (p + 1) acc).2.1 + 1) (by omega) (by omega), frR_t (frR_t (frR_at hK) hf_114) (frR_at hK)⟩)
            · skip
              have h1t : (e1 (p + 1) acc).1 = true := by
                cases hq : (e1 (p + 1) acc).1 with
                | true => rfl
                | false => exact absurd (bI_0.mpr hq) c_117
              refine j_aload_n C dX3_readOne_120 rfl rfl ?_
              refine j_bipush (v := 41) C dX3_readOne_121 rfl ?_
              refine j_calliv C (c_X3_passed _ _ _ _ _ b n (e1 (p + 1) acc).2.1 hrd9.1 hrd9.2.1 hrd9.2.2.1 (by omega)) dX3_readOne_123 jm_RX3_41 ⟨_, _, _, _, wO cRd, rfl, rfl⟩ ⟨by omega, by omega, by omega, by omega⟩ rfl (Nat.le_of_ble_eq_true rfl) (fun r z hz => ?_)
              rcases hz with ⟨rfl, hr_123, hz⟩ | ⟨rfl, hr_123, hz⟩
              · have hz := hz.symm; subst hz
                have hlt2 : (e1 (p + 1) acc).2.1 < N := by
                  rcases Nat.lt_or_ge (e1 (p + 1) acc).2.1 N with h | h
                  · exact h
                  · exact absurd ((hN _ h).symm.trans hr_123) (by decide)
                refine j_if_eq (tgt := 133) C dX3_readOne_126 (by decide) (fun c => absurd c (by decide)) (fun _ => ?_)
                refine j_iconst (v := 1) C dX3_readOne_129 rfl ?_
                refine j_goto (tgt := 134) C dX3_readOne_130 (by decide) ?_
                refine hret _ _ _ _ dX3_readOne_134 (by first | rfl | exact bI_n) ?_
                first
                  | (have e9 : (oneS (tcS b n) (tnS b n) d o1 e1 p acc) = (false, (e1 (p + 1) acc).2.1, (e1 (p + 1) acc).2.2) := by
                       unfold oneS; rw [if_neg c_15, if_neg hc12, if_neg hns, if_pos c_106, if_neg (fun h => by rw [bI_0.mp c_117] at h; exact absurd h.1 (by decide))]
                     rw [e9]; exact ⟨rfl, hrd9, frR_t (frR_at hK) hf_114⟩)
                  | (have e9 : (oneS (tcS b n) (tnS b n) d o1 e1 p acc) = (false, (e1 (p + 1) acc).2.1, (e1 (p + 1) acc).2.2) := by
                       unfold oneS; rw [if_neg c_15, if_neg hc12, if_neg hns, if_pos c_106, if_neg (fun h => hr_123 h.2)]
                     rw [e9]; exact ⟨rfl, hrd9, frR_t (frR_at hK) hf_114⟩)
                  | (have e9 : (oneS (tcS b n) (tnS b n) d o1 e1 p acc) = (true, (e1 (p + 1) acc).2.1 + 1, (e1 (p + 1) acc).2.2) := by
                       unfold oneS; rw [if_neg c_15, if_neg hc12, if_neg hns, if_pos c_106, if_pos ⟨h1t, hr_123⟩]
                     rw [e9]; exact ⟨rfl, rdX_at hK hrd9 ((e1 (p + 1) acc).2.1 + 1) (by omega) (by omega), frR_t (frR_t (frR_at hK) hf_114) (frR_at hK)⟩)
              · have hz := hz.symm; subst hz
                refine j_if_eq (tgt := 133) C dX3_readOne_126 (by decide) (fun _ => ?_) (fun c => absurd (by decide) c)
                refine j_iconst (v := 0) C dX3_readOne_133 rfl ?_
                refine hret _ _ _ _ dX3_readOne_134 (by first | rfl | exact bI_n) ?_
                first
                  | (have e9 : (oneS (tcS b n) (tnS b n) d o1 e1 p acc) = (false, (e1 (p + 1) acc).2.1, (e1 (p + 1) acc).2.2) := by
                       unfold oneS; rw [if_neg c_15, if_neg hc12, if_neg hns, if_pos c_106, if_neg (fun h => by rw [bI_0.mp c_117] at h; exact absurd h.1 (by decide))]
                     rw [e9]; exact ⟨rfl, hrd9, frR_t (frR_at hK) hf_114⟩)
                  | (have e9 : (oneS (tcS b n) (tnS b n) d o1 e1 p acc) = (false, (e1 (p + 1) acc).2.1, (e1 (p + 1) acc).2.2) := by
                       unfold oneS; rw [if_neg c_15, if_neg hc12, if_neg hns, if_pos c_106, if_neg (fun h => hr_123 h.2)]
                     rw [e9]; exact ⟨rfl, hrd9, frR_t (frR_at hK) hf_114⟩)
                  | (have e9 : (oneS (tcS b n) (tnS b n) d o1 e1 p acc) = (true, (e1 (p + 1) acc).2.1 + 1, (e1 (p + 1) acc).2.2) := by
                       unfold oneS; rw [if_neg c_15, if_neg hc12, if_neg hns, if_pos c_106, if_pos ⟨h1t, hr_123⟩]
                     rw [e9]; exact ⟨rfl, rdX_at hK hrd9 ((e1 (p + 1) acc).2.1 + 1) (by omega) (by omega), frR_t (frR_t (frR_at hK) hf_114) (frR_at hK)⟩)
        · skip
          have hd0 : d = 0 := by simp only [Int32.lt_iff_toInt_lt, Int32.le_iff_toInt_le, ← Int32.toInt_inj, Int32.reduceToInt, e_op] at c_88; omega
          have e9 : (oneS (tcS b n) (tnS b n) d o1 e1 p acc) = (false, p, acc) := by unfold oneS; rw [if_neg c_15, if_neg hc12, if_pos (Or.inr hd0)]
          refine j_iconst (v := 0) C dX3_readOne_91 rfl ?_
          refine hret _ _ _ _ dX3_readOne_92 (by first | rfl | exact bI_n) ?_
          rw [e9]; exact ⟨rfl, hrd, frR_r⟩
      · skip
        refine j_iload_n C dX3_readOne_80 rfl rfl ?_
        refine j_bipush (v := 40) C dX3_readOne_81 rfl ?_
        refine j_icmp_ne (tgt := 91) C dX3_readOne_83 (by decide) (fun c_83 => ?_) (fun c_83 => ?_)
        · skip
          have e9 : (oneS (tcS b n) (tnS b n) d o1 e1 p acc) = (false, p, acc) := by unfold oneS; rw [if_neg c_15, if_neg hc12, if_pos (Or.inl ⟨c_77, c_83⟩)]
          refine j_iconst (v := 0) C dX3_readOne_91 rfl ?_
          refine hret _ _ _ _ dX3_readOne_92 (by first | rfl | exact bI_n) ?_
          rw [e9]; exact ⟨rfl, hrd, frR_r⟩
        · skip
          have hsg : tcS b n p = 45 ∨ tcS b n p = 40 := Or.inr c_83
          refine j_iload_n C dX3_readOne_86 rfl rfl ?_
          refine j_iconst (v := 5) C dX3_readOne_87 rfl ?_
          refine j_icmp_lt (tgt := 93) C dX3_readOne_88 (by decide) (fun c_88 => ?_) (fun c_88 => ?_)
          · skip
            have hd0 : ¬ d = 0 := by simp only [Int32.lt_iff_toInt_lt, Int32.le_iff_toInt_le, ← Int32.toInt_inj, Int32.reduceToInt, e_op] at c_88; omega
            have hlt : p < N := by
              rcases Nat.lt_or_ge p N with h | h
              · exact h
              · rw [hN _ h] at hsg; exact absurd hsg (by decide)
            have hrd4 := rdX_at hK hrd (p + 1) (by omega) (by omega)
            have hgo := (hg1.resolve_left hd0).1 (p + 1) acc hlt
            have hge := (hg1.resolve_left hd0).2 (p + 1) acc hlt
            have hns : ¬ ((¬ tcS b n p = 45 ∧ ¬ tcS b n p = 40) ∨ d = 0) := fun h => h.elim (fun h => hsg.elim h.1 h.2) hd0
            refine j_aload_n C dX3_readOne_93 rfl rfl ?_
            refine j_dup C dX3_readOne_94 rfl ?_
            refine j_get C dX3_readOne_95 jf_RX3_21 (wO cRd) rfl ?_
            refine j_iconst (v := 1) C dX3_readOne_98 rfl ?_
            refine j_iadd C dX3_readOne_99 ?_
            refine j_top (v' := .int (nI (p + 1))) (vint (by rw [hrd.2.2.1, nI_1])) ?_
            refine j_put C dX3_readOne_100 jp_RX3_21 (wO cRd) (Nat.le_of_ble_eq_true rfl) rfl rfl (sO cRd 1 _ rfl) ?_
            refine j_iload_n C dX3_readOne_103 rfl rfl ?_
            refine j_bipush (v := 40) C dX3_readOne_104 rfl ?_
            refine j_icmp_ne (tgt := 135) C dX3_readOne_106 (by decide) (fun c_106 => ?_) (fun c_106 => ?_)
            · skip
              refine j_aload_n C dX3_readOne_135 rfl rfl ?_
              refine j_aload_n C dX3_readOne_136 rfl rfl ?_
              refine j_iload_n C dX3_readOne_137 rfl rfl ?_
              refine j_iconst (v := 1) C dX3_readOne_138 rfl ?_
              refine j_iadd C dX3_readOne_139 ?_
              refine j_calliv C ((hf1.resolve_left hd0).1 _ _ _ hrd4) dX3_readOne_140 jm_RX3_68 ⟨_, _, _, _, wO cRd, rfl, rfl⟩ ⟨by omega, by omega, by omega, by omega⟩ rfl (Nat.le_of_ble_eq_true rfl) (fun r_140 z_140 hz_140 => ?_)
              obtain ⟨hr, hrd9, hf_140⟩ := hz_140
              have hr := hr.symm; subst hr
              refine j_istore (lv' := [(4, _), (3, _), (0, _), (1, _), (2, _)]) C dX3_readOne_143 (by decide) rfl ?_
              refine j_aload_n C dX3_readOne_145 rfl rfl ?_
              refine j_bipush (v := -16) C dX3_readOne_146 rfl ?_
              refine j_callvv C (c_X7_keep _ _ _ _ K hK _ (o1 (p + 1) acc).2.2.length hrd9.2.2.2.1.1 (by omega)) dX3_readOne_148 jm_RX3_56 ⟨_, _, _, _, wO (cTx hK), rfl, rfl⟩ ⟨by omega, by omega, by omega, by omega⟩ rfl (Nat.le_of_ble_eq_true rfl) (fun z_148 hz_148 => ?_)
              rw [if_pos (by omega)] at hz_148
              have hz_148 := hz_148.symm; subst hz_148
              have hrd5 := rdX_keep (v := -16) hK hrd9 (by omega)
              refine j_iload C dX3_readOne_151 rfl ?_
              refine hret _ _ _ _ dX3_readOne_153 (by first | rfl | exact bI_n) ?_
              have e9 : (oneS (tcS b n) (tnS b n) d o1 e1 p acc) = ((o1 (p + 1) acc).1, (o1 (p + 1) acc).2.1, (o1 (p + 1) acc).2.2 ++ [-16]) := by unfold oneS; rw [if_neg c_15, if_neg hc12, if_neg hns, if_neg c_106]
              rw [e9]; exact ⟨rfl, hrd5, frR_t (frR_t (frR_at hK) hf_140) (frR_keep hK)⟩
            · skip
              refine j_aload_n C dX3_readOne_109 rfl rfl ?_
              refine j_aload_n C dX3_readOne_110 rfl rfl ?_
              refine j_iload_n C dX3_readOne_111 rfl rfl ?_
              refine j_iconst (v := 1) C dX3_readOne_112 rfl ?_
              refine j_iadd C dX3_readOne_113 ?_
              refine j_calliv C ((hf1.resolve_left hd0).2 _ _ _ hrd4) dX3_readOne_114 jm_RX3_45 ⟨_, _, _, _, wO cRd, rfl, rfl⟩ ⟨by omega, by omega, by omega, by omega⟩ rfl (Nat.le_of_ble_eq_true rfl) (fun r_114 z_114 hz_114 => ?_)
              obtain ⟨hr, hrd9, hf_114⟩ := hz_114
              have hr := hr.symm; subst hr
              refine j_if_eq (tgt := 133) C dX3_readOne_117 (by decide) (fun c_117 => ?_) (fun c_117 => ?_)
              · skip
                refine j_iconst (v := 0) C dX3_readOne_133 rfl ?_
                refine hret _ _ _ _ dX3_readOne_134 (by first | rfl | exact bI_n) ?_
                first
                  | (have e9 : (oneS (tcS b n) (tnS b n) d o1 e1 p acc) = (false, (e1 (p + 1) acc).2.1, (e1 (p + 1) acc).2.2) := by
                       unfold oneS; rw [if_neg c_15, if_neg hc12, if_neg hns, if_pos c_106, if_neg (fun h => by rw [bI_0.mp c_117] at h; exact absurd h.1 (by decide))]
                     rw [e9]; exact ⟨rfl, hrd9, frR_t (frR_at hK) hf_114⟩)
                  | (have e9 : (oneS (tcS b n) (tnS b n) d o1 e1 p acc) = (false, (e1 (p + 1) acc).2.1, (e1 (p + 1) acc).2.2) := by
                       unfold oneS; rw [if_neg c_15, if_neg hc12, if_neg hns, if_pos c_106, if_neg (fun h => hr_123 h.2)]
                     rw [e9]; exact ⟨rfl, hrd9, frR_t (frR_at hK) hf_114⟩)
                  | (have e9 : (oneS (tcS b n) (tnS b n) d o1 e1 p acc) = (true, (e1 (p + 1) acc).2.1 + 1, (e1 (p + 1) acc).2.2) := by
                       unfold oneS; rw [if_neg c_15, if_neg hc12, if_neg hns, if_pos c_106, if_pos ⟨h1t, hr_123⟩]
                     rw [e9]; exact ⟨rfl, rdX_at hK hrd9 ((e1 (p + 1) acc).2.1 + 1) (by omega) (by omega), frR_t (frR_t (frR_at hK) hf_114) (frR_at hK)⟩)
              · skip
                have h1t : (e1 (p + 1) acc).1 = true := by
                  cases hq : (e1 (p + 1) acc).1 with
                  | true => rfl
                  | false => exact absurd (bI_0.mpr hq) c_117
                refine j_aload_n C dX3_readOne_120 rfl rfl ?_
                refine j_bipush (v := 41) C dX3_readOne_121 rfl ?_
                refine j_calliv C (c_X3_passed _ _ _ _ _ b n (e1 (p + 1) acc).2.1 hrd9.1 hrd9.2.1 hrd9.2.2.1 (by omega)) dX3_readOne_123 jm_RX3_41 ⟨_, _, _, _, wO cRd, rfl, rfl⟩ ⟨by omega, by omega, by omega, by omega⟩ rfl (Nat.le_of_ble_eq_true rfl) (fun r z hz => ?_)
                rcases hz with ⟨rfl, hr_123, hz⟩ | ⟨rfl, hr_123, hz⟩
                · have hz := hz.symm; subst hz
                  have hlt2 : (e1 (p + 1) acc).2.1 < N := by
                    rcases Nat.lt_or_ge (e1 (p + 1) acc).2.1 N with h | h
                    · exact h
                    · exact absurd ((hN _ h).symm.trans hr_123) (by decide)
                  refine j_if_eq (tgt := 133) C dX3_readOne_126 (by decide) (fun c => absurd c (by decide)) (fun _ => ?_)
                  refine j_iconst (v := 1) C dX3_readOne_129 rfl ?_
                  refine j_goto (tgt := 134) C dX3_readOne_130 (by decide) ?_
                  refine hret _ _ _ _ dX3_readOne_134 (by first | rfl | exact bI_n) ?_
                  first
                    | (have e9 : (oneS (tcS b n) (tnS b n) d o1 e1 p acc) = (false, (e1 (p + 1) acc).2.1, (e1 (p + 1) acc).2.2) := by
                         unfold oneS; rw [if_neg c_15, if_neg hc12, if_neg hns, if_pos c_106, if_neg (fun h => by rw [bI_0.mp c_117] at h; exact absurd h.1 (by decide))]
                       rw [e9]; exact ⟨rfl, hrd9, frR_t (frR_at hK) hf_114⟩)
                    | (have e9 : (oneS (tcS b n) (tnS b n) d o1 e1 p acc) = (false, (e1 (p + 1) acc).2.1, (e1 (p + 1) acc).2.2) := by
                         unfold oneS; rw [if_neg c_15, if_neg hc12, if_neg hns, if_pos c_106, if_neg (fun h => hr_123 h.2)]
                       rw [e9]; exact ⟨rfl, hrd9, frR_t (frR_at hK) hf_114⟩)
                    | (have e9 : (oneS (tcS b n) (tnS b n) d o1 e1 p acc) = (true, (e1 (p + 1) acc).2.1 + 1, (e1 (p + 1) acc).2.2) := by
                         unfold oneS; rw [if_neg c_15, if_neg hc12, if_neg hns, if_pos c_106, if_pos ⟨h1t, hr_123⟩]
                       rw [e9]; exact ⟨rfl, rdX_at hK hrd9 ((e1 (p + 1) acc).2.1 + 1) (by omega) (by omega), frR_t (frR_t (frR_at hK) hf_114) (frR_at hK)⟩)
                · have hz := hz.symm; subst hz
                  refine j_if_eq (tgt := 133) C dX3_readOne_126 (by decide) (fun _ => ?_) (fun c => absurd (by decide) c)
                  refine j_iconst (v := 0) C dX3_readOne_133 rfl ?_
                  refine hret _ _ _ _ dX3_readOne_134 (by first | rfl | exact bI_n) ?_
                  first
                    | (have e9 : (oneS (tcS b n) (tnS b n) d o1 e1 p acc) = (false, (e1 (p + 1) acc).2.1, (e1 (p + 1) acc).2.2) := by
                         unfold oneS; rw [if_neg c_15, if_neg hc12, if_neg hns, if_pos c_106, if_neg (fun h => by rw [bI_0.mp c_117] at h; exact absurd h.1 (by decide))]
                       rw [e9]; exact ⟨rfl, hrd9, frR_t (frR_at hK) hf_114⟩)
                    | (have e9 : (oneS (tcS b n) (tnS b n) d o1 e1 p acc) = (false, (e1 (p + 1) acc).2.1, (e1 (p + 1) acc).2.2) := by
                         unfold oneS; rw [if_neg c_15, if_neg hc12, if_neg hns, if_pos c_106, if_neg (fun h => hr_123 h.2)]
                       rw [e9]; exact ⟨rfl, hrd9, frR_t (frR_at hK) hf_114⟩)
                    | (have e9 : (oneS (tcS b n) (tnS b n) d o1 e1 p acc) = (true, (e1 (p + 1) acc).2.1 + 1, (e1 (p + 1) acc).2.2) := by
                         unfold oneS; rw [if_neg c_15, if_neg hc12, if_neg hns, if_pos c_106, if_pos ⟨h1t, hr_123⟩]
                       rw [e9]; exact ⟨rfl, rdX_at hK hrd9 ((e1 (p + 1) acc).2.1 + 1) (by omega) (by omega), frR_t (frR_t (frR_at hK) hf_114) (frR_at hK)⟩)
          · skip
            have hd0 : d = 0 := by simp only [Int32.lt_iff_toInt_lt, Int32.le_iff_toInt_le, ← Int32.toInt_inj, Int32.reduceToInt, e_op] at c_88; omega
            have e9 : (oneS (tcS b n) (tnS b n) d o1 e1 p acc) = (false, p, acc) := by unfold oneS; rw [if_neg c_15, if_neg hc12, if_pos (Or.inr hd0)]
            refine j_iconst (v := 0) C dX3_readOne_91 rfl ?_
            refine hret _ _ _ _ dX3_readOne_92 (by first | rfl | exact bI_n) ?_
            rw [e9]; exact ⟨rfl, hrd, frR_r⟩
    · skip
      refine j_iload_n C dX3_readOne_50 rfl rfl ?_
      refine j_bipush (v := 6) C dX3_readOne_51 rfl ?_
      refine j_icmp_gt (tgt := 74) C dX3_readOne_53 (by decide) (fun c_53 => ?_) (fun c_53 => ?_)
      · skip
        have hc12 : ¬ (1 ≤ tcS b n p ∧ tcS b n p ≤ 6) := fun h => by simp only [Int32.lt_iff_toInt_lt, Int32.le_iff_toInt_le, ← Int32.toInt_inj, Int32.reduceToInt] at c_53 h; omega
        refine j_iload_n C dX3_readOne_74 rfl rfl ?_
        refine j_bipush (v := 45) C dX3_readOne_75 rfl ?_
        refine j_icmp_eq (tgt := 86) C dX3_readOne_77 (by decide) (fun c_77 => ?_) (fun c_77 => ?_)
        · skip
          have hsg : tcS b n p = 45 ∨ tcS b n p = 40 := Or.inl c_77
          refine j_iload_n C dX3_readOne_86 rfl rfl ?_
          refine j_iconst (v := 5) C dX3_readOne_87 rfl ?_
          refine j_icmp_lt (tgt := 93) C dX3_readOne_88 (by decide) (fun c_88 => ?_) (fun c_88 => ?_)
          · skip
            have hd0 : ¬ d = 0 := by simp only [Int32.lt_iff_toInt_lt, Int32.le_iff_toInt_le, ← Int32.toInt_inj, Int32.reduceToInt, e_op] at c_88; omega
            have hlt : p < N := by
              rcases Nat.lt_or_ge p N with h | h
              · exact h
              · rw [hN _ h] at hsg; exact absurd hsg (by decide)
            have hrd4 := rdX_at hK hrd (p + 1) (by omega) (by omega)
            have hgo := (hg1.resolve_left hd0).1 (p + 1) acc hlt
            have hge := (hg1.resolve_left hd0).2 (p + 1) acc hlt
            have hns : ¬ ((¬ tcS b n p = 45 ∧ ¬ tcS b n p = 40) ∨ d = 0) := fun h => h.elim (fun h => hsg.elim h.1 h.2) hd0
            refine j_aload_n C dX3_readOne_93 rfl rfl ?_
            refine j_dup C dX3_readOne_94 rfl ?_
            refine j_get C dX3_readOne_95 jf_RX3_21 (wO cRd) rfl ?_
            refine j_iconst (v := 1) C dX3_readOne_98 rfl ?_
            refine j_iadd C dX3_readOne_99 ?_
            refine j_top (v' := .int (nI (p + 1))) (vint (by rw [hrd.2.2.1, nI_1])) ?_
            refine j_put C dX3_readOne_100 jp_RX3_21 (wO cRd) (Nat.le_of_ble_eq_true rfl) rfl rfl (sO cRd 1 _ rfl) ?_
            refine j_iload_n C dX3_readOne_103 rfl rfl ?_
            refine j_bipush (v := 40) C dX3_readOne_104 rfl ?_
            refine j_icmp_ne (tgt := 135) C dX3_readOne_106 (by decide) (fun c_106 => ?_) (fun c_106 => ?_)
            · skip
              refine j_aload_n C dX3_readOne_135 rfl rfl ?_
              refine j_aload_n C dX3_readOne_136 rfl rfl ?_
              refine j_iload_n C dX3_readOne_137 rfl rfl ?_
              refine j_iconst (v := 1) C dX3_readOne_138 rfl ?_
              refine j_iadd C dX3_readOne_139 ?_
              refine j_calliv C ((hf1.resolve_left hd0).1 _ _ _ hrd4) dX3_readOne_140 jm_RX3_68 ⟨_, _, _, _, wO cRd, rfl, rfl⟩ ⟨by omega, by omega, by omega, by omega⟩ rfl (Nat.le_of_ble_eq_true rfl) (fun r_140 z_140 hz_140 => ?_)
              obtain ⟨hr, hrd9, hf_140⟩ := hz_140
              have hr := hr.symm; subst hr
              refine j_istore (lv' := [(4, _), (3, _), (0, _), (1, _), (2, _)]) C dX3_readOne_143 (by decide) rfl ?_
              refine j_aload_n C dX3_readOne_145 rfl rfl ?_
              refine j_bipush (v := -16) C dX3_readOne_146 rfl ?_
              refine j_callvv C (c_X7_keep _ _ _ _ K hK _ (o1 (p + 1) acc).2.2.length hrd9.2.2.2.1.1 (by omega)) dX3_readOne_148 jm_RX3_56 ⟨_, _, _, _, wO (cTx hK), rfl, rfl⟩ ⟨by omega, by omega, by omega, by omega⟩ rfl (Nat.le_of_ble_eq_true rfl) (fun z_148 hz_148 => ?_)
              rw [if_pos (by omega)] at hz_148
              have hz_148 := hz_148.symm; subst hz_148
              have hrd5 := rdX_keep (v := -16) hK hrd9 (by omega)
              refine j_iload C dX3_readOne_151 rfl ?_
              refine hret _ _ _ _ dX3_readOne_153 (by first | rfl | exact bI_n) ?_
              have e9 : (oneS (tcS b n) (tnS b n) d o1 e1 p acc) = ((o1 (p + 1) acc).1, (o1 (p + 1) acc).2.1, (o1 (p + 1) acc).2.2 ++ [-16]) := by unfold oneS; rw [if_neg c_15, if_neg hc12, if_neg hns, if_neg c_106]
              rw [e9]; exact ⟨rfl, hrd5, frR_t (frR_t (frR_at hK) hf_140) (frR_keep hK)⟩
            · skip
              refine j_aload_n C dX3_readOne_109 rfl rfl ?_
              refine j_aload_n C dX3_readOne_110 rfl rfl ?_
              refine j_iload_n C dX3_readOne_111 rfl rfl ?_
              refine j_iconst (v := 1) C dX3_readOne_112 rfl ?_
              refine j_iadd C dX3_readOne_113 ?_
              refine j_calliv C ((hf1.resolve_left hd0).2 _ _ _ hrd4) dX3_readOne_114 jm_RX3_45 ⟨_, _, _, _, wO cRd, rfl, rfl⟩ ⟨by omega, by omega, by omega, by omega⟩ rfl (Nat.le_of_ble_eq_true rfl) (fun r_114 z_114 hz_114 => ?_)
              obtain ⟨hr, hrd9, hf_114⟩ := hz_114
              have hr := hr.symm; subst hr
              refine j_if_eq (tgt := 133) C dX3_readOne_117 (by decide) (fun c_117 => ?_) (fun c_117 => ?_)
              · skip
                refine j_iconst (v := 0) C dX3_readOne_133 rfl ?_
                refine hret _ _ _ _ dX3_readOne_134 (by first | rfl | exact bI_n) ?_
                first
                  | (have e9 : (oneS (tcS b n) (tnS b n) d o1 e1 p acc) = (false, (e1 (p + 1) acc).2.1, (e1 (p + 1) acc).2.2) := by
                       unfold oneS; rw [if_neg c_15, if_neg hc12, if_neg hns, if_pos c_106, if_neg (fun h => by rw [bI_0.mp c_117] at h; exact absurd h.1 (by decide))]
                     rw [e9]; exact ⟨rfl, hrd9, frR_t (frR_at hK) hf_114⟩)
                  | (have e9 : (oneS (tcS b n) (tnS b n) d o1 e1 p acc) = (false, (e1 (p + 1) acc).2.1, (e1 (p + 1) acc).2.2) := by
                       unfold oneS; rw [if_neg c_15, if_neg hc12, if_neg hns, if_pos c_106, if_neg (fun h => hr_123 h.2)]
                     rw [e9]; exact ⟨rfl, hrd9, frR_t (frR_at hK) hf_114⟩)
                  | (have e9 : (oneS (tcS b n) (tnS b n) d o1 e1 p acc) = (true, (e1 (p + 1) acc).2.1 + 1, (e1 (p + 1) acc).2.2) := by
                       unfold oneS; rw [if_neg c_15, if_neg hc12, if_neg hns, if_pos c_106, if_pos ⟨h1t, hr_123⟩]
                     rw [e9]; exact ⟨rfl, rdX_at hK hrd9 ((e1 (p + 1) acc).2.1 + 1) (by omega) (by omega), frR_t (frR_t (frR_at hK) hf_114) (frR_at hK)⟩)
              · skip
                have h1t : (e1 (p + 1) acc).1 = true := by
                  cases hq : (e1 (p + 1) acc).1 with
                  | true => rfl
                  | false => exact absurd (bI_0.mpr hq) c_117
                refine j_aload_n C dX3_readOne_120 rfl rfl ?_
                refine j_bipush (v := 41) C dX3_readOne_121 rfl ?_
                refine j_calliv C (c_X3_passed _ _ _ _ _ b n (e1 (p + 1) acc).2.1 hrd9.1 hrd9.2.1 hrd9.2.2.1 (by omega)) dX3_readOne_123 jm_RX3_41 ⟨_, _, _, _, wO cRd, rfl, rfl⟩ ⟨by omega, by omega, by omega, by omega⟩ rfl (Nat.le_of_ble_eq_true rfl) (fun r z hz => ?_)
                rcases hz with ⟨rfl, hr_123, hz⟩ | ⟨rfl, hr_123, hz⟩
                · have hz := hz.symm; subst hz
                  have hlt2 : (e1 (p + 1) acc).2.1 < N := by
                    rcases Nat.lt_or_ge (e1 (p + 1) acc).2.1 N with h | h
                    · exact h
                    · exact absurd ((hN _ h).symm.trans hr_123) (by decide)
                  refine j_if_eq (tgt := 133) C dX3_readOne_126 (by decide) (fun c => absurd c (by decide)) (fun _ => ?_)
                  refine j_iconst (v := 1) C dX3_readOne_129 rfl ?_
                  refine j_goto (tgt := 134) C dX3_readOne_130 (by decide) ?_
                  refine hret _ _ _ _ dX3_readOne_134 (by first | rfl | exact bI_n) ?_
                  first
                    | (have e9 : (oneS (tcS b n) (tnS b n) d o1 e1 p acc) = (false, (e1 (p + 1) acc).2.1, (e1 (p + 1) acc).2.2) := by
                         unfold oneS; rw [if_neg c_15, if_neg hc12, if_neg hns, if_pos c_106, if_neg (fun h => by rw [bI_0.mp c_117] at h; exact absurd h.1 (by decide))]
                       rw [e9]; exact ⟨rfl, hrd9, frR_t (frR_at hK) hf_114⟩)
                    | (have e9 : (oneS (tcS b n) (tnS b n) d o1 e1 p acc) = (false, (e1 (p + 1) acc).2.1, (e1 (p + 1) acc).2.2) := by
                         unfold oneS; rw [if_neg c_15, if_neg hc12, if_neg hns, if_pos c_106, if_neg (fun h => hr_123 h.2)]
                       rw [e9]; exact ⟨rfl, hrd9, frR_t (frR_at hK) hf_114⟩)
                    | (have e9 : (oneS (tcS b n) (tnS b n) d o1 e1 p acc) = (true, (e1 (p + 1) acc).2.1 + 1, (e1 (p + 1) acc).2.2) := by
                         unfold oneS; rw [if_neg c_15, if_neg hc12, if_neg hns, if_pos c_106, if_pos ⟨h1t, hr_123⟩]
                       rw [e9]; exact ⟨rfl, rdX_at hK hrd9 ((e1 (p + 1) acc).2.1 + 1) (by omega) (by omega), frR_t (frR_t (frR_at hK) hf_114) (frR_at hK)⟩)
                · have hz := hz.symm; subst hz
                  refine j_if_eq (tgt := 133) C dX3_readOne_126 (by decide) (fun _ => ?_) (fun c => absurd (by decide) c)
                  refine j_iconst (v := 0) C dX3_readOne_133 rfl ?_
                  refine hret _ _ _ _ dX3_readOne_134 (by first | rfl | exact bI_n) ?_
                  first
                    | (have e9 : (oneS (tcS b n) (tnS b n) d o1 e1 p acc) = (false, (e1 (p + 1) acc).2.1, (e1 (p + 1) acc).2.2) := by
                         unfold oneS; rw [if_neg c_15, if_neg hc12, if_neg hns, if_pos c_106, if_neg (fun h => by rw [bI_0.mp c_117] at h; exact absurd h.1 (by decide))]
                       rw [e9]; exact ⟨rfl, hrd9, frR_t (frR_at hK) hf_114⟩)
                    | (have e9 : (oneS (tcS b n) (tnS b n) d o1 e1 p acc) = (false, (e1 (p + 1) acc).2.1, (e1 (p + 1) acc).2.2) := by
                         unfold oneS; rw [if_neg c_15, if_neg hc12, if_neg hns, if_pos c_106, if_neg (fun h => hr_123 h.2)]
                       rw [e9]; exact ⟨rfl, hrd9, frR_t (frR_at hK) hf_114⟩)
                    | (have e9 : (oneS (tcS b n) (tnS b n) d o1 e1 p acc) = (true, (e1 (p + 1) acc).2.1 + 1, (e1 (p + 1) acc).2.2) := by
                         unfold oneS; rw [if_neg c_15, if_neg hc12, if_neg hns, if_pos c_106, if_pos ⟨h1t, hr_123⟩]
                       rw [e9]; exact ⟨rfl, rdX_at hK hrd9 ((e1 (p + 1) acc).2.1 + 1) (by omega) (by omega), frR_t (frR_t (frR_at hK) hf_114) (frR_at hK)⟩)
          · skip
            have hd0 : d = 0 := by simp only [Int32.lt_iff_toInt_lt, Int32.le_iff_toInt_le, ← Int32.toInt_inj, Int32.reduceToInt, e_op] at c_88; omega
            have e9 : (oneS (tcS b n) (tnS b n) d o1 e1 p acc) = (false, p, acc) := by unfold oneS; rw [if_neg c_15, if_neg hc12, if_pos (Or.inr hd0)]
            refine j_iconst (v := 0) C dX3_readOne_91 rfl ?_
            refine hret _ _ _ _ dX3_readOne_92 (by first | rfl | exact bI_n) ?_
            rw [e9]; exact ⟨rfl, hrd, frR_r⟩
        · skip
          refine j_iload_n C dX3_readOne_80 rfl rfl ?_
          refine j_bipush (v := 40) C dX3_readOne_81 rfl ?_
          refine j_icmp_ne (tgt := 91) C dX3_readOne_83 (by decide) (fun c_83 => ?_) (fun c_83 => ?_)
          · skip
            have e9 : (oneS (tcS b n) (tnS b n) d o1 e1 p acc) = (false, p, acc) := by unfold oneS; rw [if_neg c_15, if_neg hc12, if_pos (Or.inl ⟨c_77, c_83⟩)]
            refine j_iconst (v := 0) C dX3_readOne_91 rfl ?_
            refine hret _ _ _ _ dX3_readOne_92 (by first | rfl | exact bI_n) ?_
            rw [e9]; exact ⟨rfl, hrd, frR_r⟩
          · skip
            have hsg : tcS b n p = 45 ∨ tcS b n p = 40 := Or.inr c_83
            refine j_iload_n C dX3_readOne_86 rfl rfl ?_
            refine j_iconst (v := 5) C dX3_readOne_87 rfl ?_
            refine j_icmp_lt (tgt := 93) C dX3_readOne_88 (by decide) (fun c_88 => ?_) (fun c_88 => ?_)
            · skip
              have hd0 : ¬ d = 0 := by simp only [Int32.lt_iff_toInt_lt, Int32.le_iff_toInt_le, ← Int32.toInt_inj, Int32.reduceToInt, e_op] at c_88; omega
              have hlt : p < N := by
                rcases Nat.lt_or_ge p N with h | h
                · exact h
                · rw [hN _ h] at hsg; exact absurd hsg (by decide)
              have hrd4 := rdX_at hK hrd (p + 1) (by omega) (by omega)
              have hgo := (hg1.resolve_left hd0).1 (p + 1) acc hlt
              have hge := (hg1.resolve_left hd0).2 (p + 1) acc hlt
              have hns : ¬ ((¬ tcS b n p = 45 ∧ ¬ tcS b n p = 40) ∨ d = 0) := fun h => h.elim (fun h => hsg.elim h.1 h.2) hd0
              refine j_aload_n C dX3_readOne_93 rfl rfl ?_
              refine j_dup C dX3_readOne_94 rfl ?_
              refine j_get C dX3_readOne_95 jf_RX3_21 (wO cRd) rfl ?_
              refine j_iconst (v := 1) C dX3_readOne_98 rfl ?_
              refine j_iadd C dX3_readOne_99 ?_
              refine j_top (v' := .int (nI (p + 1))) (vint (by rw [hrd.2.2.1, nI_1])) ?_
              refine j_put C dX3_readOne_100 jp_RX3_21 (wO cRd) (Nat.le_of_ble_eq_true rfl) rfl rfl (sO cRd 1 _ rfl) ?_
              refine j_iload_n C dX3_readOne_103 rfl rfl ?_
              refine j_bipush (v := 40) C dX3_readOne_104 rfl ?_
              refine j_icmp_ne (tgt := 135) C dX3_readOne_106 (by decide) (fun c_106 => ?_) (fun c_106 => ?_)
              · skip
                refine j_aload_n C dX3_readOne_135 rfl rfl ?_
                refine j_aload_n C dX3_readOne_136 rfl rfl ?_
                refine j_iload_n C dX3_readOne_137 rfl rfl ?_
                refine j_iconst (v := 1) C dX3_readOne_138 rfl ?_
                refine j_iadd C dX3_readOne_139 ?_
                refine j_calliv C ((hf1.resolve_left hd0).1 _ _ _ hrd4) dX3_readOne_140 jm_RX3_68 ⟨_, _, _, _, wO cRd, rfl, rfl⟩ ⟨by omega, by omega, by omega, by omega⟩ rfl (Nat.le_of_ble_eq_true rfl) (fun r_140 z_140 hz_140 => ?_)
                obtain ⟨hr, hrd9, hf_140⟩ := hz_140
                have hr := hr.symm; subst hr
                refine j_istore (lv' := [(4, _), (3, _), (0, _), (1, _), (2, _)]) C dX3_readOne_143 (by decide) rfl ?_
                refine j_aload_n C dX3_readOne_145 rfl rfl ?_
                refine j_bipush (v := -16) C dX3_readOne_146 rfl ?_
                refine j_callvv C (c_X7_keep _ _ _ _ K hK _ (o1 (p + 1) acc).2.2.length hrd9.2.2.2.1.1 (by omega)) dX3_readOne_148 jm_RX3_56 ⟨_, _, _, _, wO (cTx hK), rfl, rfl⟩ ⟨by omega, by omega, by omega, by omega⟩ rfl (Nat.le_of_ble_eq_true rfl) (fun z_148 hz_148 => ?_)
                rw [if_pos (by omega)] at hz_148
                have hz_148 := hz_148.symm; subst hz_148
                have hrd5 := rdX_keep (v := -16) hK hrd9 (by omega)
                refine j_iload C dX3_readOne_151 rfl ?_
                refine hret _ _ _ _ dX3_readOne_153 (by first | rfl | exact bI_n) ?_
                have e9 : (oneS (tcS b n) (tnS b n) d o1 e1 p acc) = ((o1 (p + 1) acc).1, (o1 (p + 1) acc).2.1, (o1 (p + 1) acc).2.2 ++ [-16]) := by unfold oneS; rw [if_neg c_15, if_neg hc12, if_neg hns, if_neg c_106]
                rw [e9]; exact ⟨rfl, hrd5, frR_t (frR_t (frR_at hK) hf_140) (frR_keep hK)⟩
              · skip
                refine j_aload_n C dX3_readOne_109 rfl rfl ?_
                refine j_aload_n C dX3_readOne_110 rfl rfl ?_
                refine j_iload_n C dX3_readOne_111 rfl rfl ?_
                refine j_iconst (v := 1) C dX3_readOne_112 rfl ?_
                refine j_iadd C dX3_readOne_113 ?_
                refine j_calliv C ((hf1.resolve_left hd0).2 _ _ _ hrd4) dX3_readOne_114 jm_RX3_45 ⟨_, _, _, _, wO cRd, rfl, rfl⟩ ⟨by omega, by omega, by omega, by omega⟩ rfl (Nat.le_of_ble_eq_true rfl) (fun r_114 z_114 hz_114 => ?_)
                obtain ⟨hr, hrd9, hf_114⟩ := hz_114
                have hr := hr.symm; subst hr
                refine j_if_eq (tgt := 133) C dX3_readOne_117 (by decide) (fun c_117 => ?_) (fun c_117 => ?_)
                · skip
                  refine j_iconst (v := 0) C dX3_readOne_133 rfl ?_
                  refine hret _ _ _ _ dX3_readOne_134 (by first | rfl | exact bI_n) ?_
                  first
                    | (have e9 : (oneS (tcS b n) (tnS b n) d o1 e1 p acc) = (false, (e1 (p + 1) acc).2.1, (e1 (p + 1) acc).2.2) := by
                         unfold oneS; rw [if_neg c_15, if_neg hc12, if_neg hns, if_pos c_106, if_neg (fun h => by rw [bI_0.mp c_117] at h; exact absurd h.1 (by decide))]
                       rw [e9]; exact ⟨rfl, hrd9, frR_t (frR_at hK) hf_114⟩)
                    | (have e9 : (oneS (tcS b n) (tnS b n) d o1 e1 p acc) = (false, (e1 (p + 1) acc).2.1, (e1 (p + 1) acc).2.2) := by
                         unfold oneS; rw [if_neg c_15, if_neg hc12, if_neg hns, if_pos c_106, if_neg (fun h => hr_123 h.2)]
                       rw [e9]; exact ⟨rfl, hrd9, frR_t (frR_at hK) hf_114⟩)
                    | (have e9 : (oneS (tcS b n) (tnS b n) d o1 e1 p acc) = (true, (e1 (p + 1) acc).2.1 + 1, (e1 (p + 1) acc).2.2) := by
                         unfold oneS; rw [if_neg c_15, if_neg hc12, if_neg hns, if_pos c_106, if_pos ⟨h1t, hr_123⟩]
                       rw [e9]; exact ⟨rfl, rdX_at hK hrd9 ((e1 (p + 1) acc).2.1 + 1) (by omega) (by omega), frR_t (frR_t (frR_at hK) hf_114) (frR_at hK)⟩)
                · skip
                  have h1t : (e1 (p + 1) acc).1 = true := by
                    cases hq : (e1 (p + 1) acc).1 with
                    | true => rfl
                    | false => exact absurd (bI_0.mpr hq) c_117
                  refine j_aload_n C dX3_readOne_120 rfl rfl ?_
                  refine j_bipush (v := 41) C dX3_readOne_121 rfl ?_
                  refine j_calliv C (c_X3_passed _ _ _ _ _ b n (e1 (p + 1) acc).2.1 hrd9.1 hrd9.2.1 hrd9.2.2.1 (by omega)) dX3_readOne_123 jm_RX3_41 ⟨_, _, _, _, wO cRd, rfl, rfl⟩ ⟨by omega, by omega, by omega, by omega⟩ rfl (Nat.le_of_ble_eq_true rfl) (fun r z hz => ?_)
                  rcases hz with ⟨rfl, hr_123, hz⟩ | ⟨rfl, hr_123, hz⟩
                  · have hz := hz.symm; subst hz
                    have hlt2 : (e1 (p + 1) acc).2.1 < N := by
                      rcases Nat.lt_or_ge (e1 (p + 1) acc).2.1 N with h | h
                      · exact h
                      · exact absurd ((hN _ h).symm.trans hr_123) (by decide)
                    refine j_if_eq (tgt := 133) C dX3_readOne_126 (by decide) (fun c => absurd c (by decide)) (fun _ => ?_)
                    refine j_iconst (v := 1) C dX3_readOne_129 rfl ?_
                    refine j_goto (tgt := 134) C dX3_readOne_130 (by decide) ?_
                    refine hret _ _ _ _ dX3_readOne_134 (by first | rfl | exact bI_n) ?_
                    first
                      | (have e9 : (oneS (tcS b n) (tnS b n) d o1 e1 p acc) = (false, (e1 (p + 1) acc).2.1, (e1 (p + 1) acc).2.2) := by
                           unfold oneS; rw [if_neg c_15, if_neg hc12, if_neg hns, if_pos c_106, if_neg (fun h => by rw [bI_0.mp c_117] at h; exact absurd h.1 (by decide))]
                         rw [e9]; exact ⟨rfl, hrd9, frR_t (frR_at hK) hf_114⟩)
                      | (have e9 : (oneS (tcS b n) (tnS b n) d o1 e1 p acc) = (false, (e1 (p + 1) acc).2.1, (e1 (p + 1) acc).2.2) := by
                           unfold oneS; rw [if_neg c_15, if_neg hc12, if_neg hns, if_pos c_106, if_neg (fun h => hr_123 h.2)]
                         rw [e9]; exact ⟨rfl, hrd9, frR_t (frR_at hK) hf_114⟩)
                      | (have e9 : (oneS (tcS b n) (tnS b n) d o1 e1 p acc) = (true, (e1 (p + 1) acc).2.1 + 1, (e1 (p + 1) acc).2.2) := by
                           unfold oneS; rw [if_neg c_15, if_neg hc12, if_neg hns, if_pos c_106, if_pos ⟨h1t, hr_123⟩]
                         rw [e9]; exact ⟨rfl, rdX_at hK hrd9 ((e1 (p + 1) acc).2.1 + 1) (by omega) (by omega), frR_t (frR_t (frR_at hK) hf_114) (frR_at hK)⟩)
                  · have hz := hz.symm; subst hz
                    refine j_if_eq (tgt := 133) C dX3_readOne_126 (by decide) (fun _ => ?_) (fun c => absurd (by decide) c)
                    refine j_iconst (v := 0) C dX3_readOne_133 rfl ?_
                    refine hret _ _ _ _ dX3_readOne_134 (by first | rfl | exact bI_n) ?_
                    first
                      | (have e9 : (oneS (tcS b n) (tnS b n) d o1 e1 p acc) = (false, (e1 (p + 1) acc).2.1, (e1 (p + 1) acc).2.2) := by
                           unfold oneS; rw [if_neg c_15, if_neg hc12, if_neg hns, if_pos c_106, if_neg (fun h => by rw [bI_0.mp c_117] at h; exact absurd h.1 (by decide))]
                         rw [e9]; exact ⟨rfl, hrd9, frR_t (frR_at hK) hf_114⟩)
                      | (have e9 : (oneS (tcS b n) (tnS b n) d o1 e1 p acc) = (false, (e1 (p + 1) acc).2.1, (e1 (p + 1) acc).2.2) := by
                           unfold oneS; rw [if_neg c_15, if_neg hc12, if_neg hns, if_pos c_106, if_neg (fun h => hr_123 h.2)]
                         rw [e9]; exact ⟨rfl, hrd9, frR_t (frR_at hK) hf_114⟩)
                      | (have e9 : (oneS (tcS b n) (tnS b n) d o1 e1 p acc) = (true, (e1 (p + 1) acc).2.1 + 1, (e1 (p + 1) acc).2.2) := by
                           unfold oneS; rw [if_neg c_15, if_neg hc12, if_neg hns, if_pos c_106, if_pos ⟨h1t, hr_123⟩]
                         rw [e9]; exact ⟨rfl, rdX_at hK hrd9 ((e1 (p + 1) acc).2.1 + 1) (by omega) (by omega), frR_t (frR_t (frR_at hK) hf_114) (frR_at hK)⟩)
            · skip
              have hd0 : d = 0 := by simp only [Int32.lt_iff_toInt_lt, Int32.le_iff_toInt_le, ← Int32.toInt_inj, Int32.reduceToInt, e_op] at c_88; omega
              have e9 : (oneS (tcS b n) (tnS b n) d o1 e1 p acc) = (false, p, acc) := by unfold oneS; rw [if_neg c_15, if_neg hc12, if_pos (Or.inr hd0)]
              refine j_iconst (v := 0) C dX3_readOne_91 rfl ?_
              refine hret _ _ _ _ dX3_readOne_92 (by first | rfl | exact bI_n) ?_
              rw [e9]; exact ⟨rfl, hrd, frR_r⟩
      · skip
        have hc12 : 1 ≤ tcS b n p ∧ tcS b n p ≤ 6 := by simp only [Int32.lt_iff_toInt_lt, Int32.le_iff_toInt_le, ← Int32.toInt_inj, Int32.reduceToInt] at c_47 c_53 ⊢; omega
        have hlt : p < N := by
          rcases Nat.lt_or_ge p N with h | h
          · exact h
          · rw [hN _ h] at hc12; exact absurd hc12 (by decide)
        have hrd4 := rdX_at hK hrd (p + 1) (by omega) (by omega)
        refine j_aload_n C dX3_readOne_56 rfl rfl ?_
        refine j_iload_n C dX3_readOne_57 rfl rfl ?_
        refine j_ineg C dX3_readOne_58 ?_
        refine j_callvv C (c_X7_keep _ _ _ _ K hK _ acc.length hrd.2.2.2.1.1 (by omega)) dX3_readOne_59 jm_RX3_56 ⟨_, _, _, _, wO (cTx hK), rfl, rfl⟩ ⟨by omega, by omega, by omega, by omega⟩ rfl (Nat.le_of_ble_eq_true rfl) (fun z_59 hz_59 => ?_)
        rw [if_pos (by omega)] at hz_59
        have hz_59 := hz_59.symm; subst hz_59
        refine j_aload_n C dX3_readOne_62 rfl rfl ?_
        refine j_dup C dX3_readOne_63 rfl ?_
        refine j_get C dX3_readOne_64 jf_RX3_21 (wO cRd) rfl ?_
        refine j_iconst (v := 1) C dX3_readOne_67 rfl ?_
        refine j_iadd C dX3_readOne_68 ?_
        refine j_top (v' := .int (nI (p + 1))) (vint (by rw [uM_ne (by omega), uM_ne (by omega), hrd.2.2.1, nI_1])) ?_
        refine j_put C dX3_readOne_69 jp_RX3_21 (wO cRd) (Nat.le_of_ble_eq_true rfl) rfl rfl (sO cRd 1 _ rfl) ?_
        refine j_iconst (v := 1) C dX3_readOne_72 rfl ?_
        refine hret _ _ _ _ dX3_readOne_73 (by first | rfl | exact bI_n) ?_
        have e9 : (oneS (tcS b n) (tnS b n) d o1 e1 p acc) = (true, p + 1, acc ++ [-(tcS b n p)]) := by unfold oneS; rw [if_neg c_15, if_pos hc12]
        rw [e9, keep_at hK]; exact ⟨rfl, rdX_keep hK hrd4 (show acc.length + 1 ≤ p + 1 by omega), frR_t (frR_at hK) (frR_keep hK)⟩
  · skip
    have hlt : p < N := by
      rcases Nat.lt_or_ge p N with h | h
      · exact h
      · exact absurd ((hN _ h).symm.trans c_15) (by decide)
    have hrd4 := rdX_at hK hrd (p + 1) (by omega) (by omega)
    refine j_aload_n C dX3_readOne_18 rfl rfl ?_
    refine j_aload_n C dX3_readOne_19 rfl rfl ?_
    refine j_get C dX3_readOne_20 jf_RX3_12 (wO cRd) rfl ?_
    refine j_aload_n C dX3_readOne_23 rfl rfl ?_
    refine j_get C dX3_readOne_24 jf_RX3_21 (wO cRd) rfl ?_
    refine j_calliv C (c_X6_numberAt _ _ _ _ _ n hrd.1 p hrd.2.2.1 (by omega)) dX3_readOne_27 jm_RX3_71 ⟨_, _, _, _, wO cTp, rfl, rfl⟩ ⟨by omega, by omega, by omega, by omega⟩ rfl (Nat.le_of_ble_eq_true rfl) (fun r_27 z_27 hz_27 => ?_)
    obtain ⟨hr, hz⟩ := hz_27; have hz := hz.symm; subst hz; rw [hrd.2.1] at hr; have hr := hr.symm; subst hr
    refine j_callvv C (c_X7_keep _ _ _ _ K hK _ acc.length hrd.2.2.2.1.1 (by omega)) dX3_readOne_30 jm_RX3_56 ⟨_, _, _, _, wO (cTx hK), rfl, rfl⟩ ⟨by omega, by omega, by omega, by omega⟩ rfl (Nat.le_of_ble_eq_true rfl) (fun z_30 hz_30 => ?_)
    rw [if_pos (by omega)] at hz_30
    have hz_30 := hz_30.symm; subst hz_30
    refine j_aload_n C dX3_readOne_33 rfl rfl ?_
    refine j_dup C dX3_readOne_34 rfl ?_
    refine j_get C dX3_readOne_35 jf_RX3_21 (wO cRd) rfl ?_
    refine j_iconst (v := 1) C dX3_readOne_38 rfl ?_
    refine j_iadd C dX3_readOne_39 ?_
    refine j_top (v' := .int (nI (p + 1))) (vint (by rw [uM_ne (by omega), uM_ne (by omega), hrd.2.2.1, nI_1])) ?_
    refine j_put C dX3_readOne_40 jp_RX3_21 (wO cRd) (Nat.le_of_ble_eq_true rfl) rfl rfl (sO cRd 1 _ rfl) ?_
    refine j_iconst (v := 1) C dX3_readOne_43 rfl ?_
    refine hret _ _ _ _ dX3_readOne_44 (by first | rfl | exact bI_n) ?_
    have e9 : (oneS (tcS b n) (tnS b n) d o1 e1 p acc) = (true, p + 1, acc ++ [tnS b n p]) := by unfold oneS; rw [if_pos c_15]
    rw [e9, keep_at hK]; exact ⟨rfl, rdX_keep hK hrd4 (show acc.length + 1 ≤ p + 1 by omega), frR_t (frR_at hK) (frR_keep hK)⟩
