/-! TOKENS: b the bytes, n how many -/
def btS (b : Nat → Int32) (n i : Nat) : Int32 := if i < n then b i else -1
abbrev isB (v : Int32) : Prop := v = 32 ∨ v = 10
/-- behind what satisfies P, from p on -/
def ruP (P : Int32 → Prop) [DecidablePred P] (b : Nat → Int32) (n : Nat) : Nat → Nat → Nat
  | 0, p => p
  | f + 1, p => if p < n ∧ P (b p) then ruP P b n f (p + 1) else p
def skS (b : Nat → Int32) (n p : Nat) : Nat := ruP isB b n (n - p) p
def enR (b : Nat → Int32) (n : Nat) (lw hi : Int32) (p : Nat) : Nat := ruP (fun v => lw ≤ v ∧ v ≤ hi) b n (n - p) p
theorem ruP_y {P : Int32 → Prop} [DecidablePred P] {b : Nat → Int32} {n p : Nat} (h : p < n) (h2 : P (b p)) : ruP P b n (n - p) p = ruP P b n (n - (p + 1)) (p + 1) := by
  obtain ⟨m, hm⟩ : ∃ m, n - p = m + 1 := ⟨n - p - 1, by omega⟩
  rw [hm, ruP, if_pos ⟨h, h2⟩, show n - (p + 1) = m by omega]
theorem ruP_n {P : Int32 → Prop} [DecidablePred P] {b : Nat → Int32} {n p : Nat} (h : ¬ (p < n ∧ P (b p))) : ruP P b n (n - p) p = p := by
  cases hm : n - p with
  | zero => rfl
  | succ m => rw [ruP, if_neg h]
theorem ruP_le {P : Int32 → Prop} [DecidablePred P] {b : Nat → Int32} {n : Nat} : ∀ f p, p ≤ ruP P b n f p ∧ (p ≤ n → ruP P b n f p ≤ n)
  | 0, p => ⟨Nat.le_refl _, id⟩
  | f + 1, p => by
    rw [ruP]; split
    · have h := ruP_le (P := P) (b := b) (n := n) f (p + 1)
      exact ⟨by omega, fun _ => h.2 (by omega)⟩
    · exact ⟨Nat.le_refl _, id⟩
theorem skS_le {b : Nat → Int32} {n p : Nat} : p ≤ skS b n p ∧ (p ≤ n → skS b n p ≤ n) := ruP_le _ _
theorem enR_le {b : Nat → Int32} {n p : Nat} {lw hi : Int32} : p ≤ enR b n lw hi p ∧ (p ≤ n → enR b n lw hi p ≤ n) := ruP_le _ _
def nuS (b : Nat → Int32) (s : Nat) : Nat → Int32
  | 0 => 0
  | k + 1 => nuS b s k * 10 + b (s + k) - 48
/-- a word's number: 1 .. 12, else 15 -/
def woF (l : List Int32) : Nat → Nat → Int32
  | 0, _ => 15
  | k + 1, w => if l = sByt.getD w [] then nI w else woF l k (w + 1)
def woS (b : Nat → Int32) (s e : Nat) : Int32 := woF (slS b s e) 12 1
abbrev isL (v : Int32) : Prop := 97 ≤ v ∧ v ≤ 122
abbrev isD (v : Int32) : Prop := 48 ≤ v ∧ v ≤ 57
abbrev isS (v : Int32) : Prop := v = 40 ∨ v = 41 ∨ v = 59 ∨ v = 43 ∨ v = 45 ∨ v = 42 ∨ v = 60 ∨ v = 61
/-- the token that begins at p < n: its number, what it says, where it ends -/
def tkE (b : Nat → Int32) (n p : Nat) : Nat := if isL (b p) then enR b n 97 122 p else if isD (b p) then enR b n 48 57 p else p + 1
def tkC (b : Nat → Int32) (n p : Nat) : Int32 := if isL (b p) then woS b p (tkE b n p) else if isD (b p) then (if tkE b n p - p ≤ 4 then 13 else 15) else if isS (b p) then b p else 15
def tkN (b : Nat → Int32) (n p : Nat) : Int32 := if ¬ isL (b p) ∧ isD (b p) then nuS b p (tkE b n p - p) else 0
/-- where the k-th token begins (n: there is none) -/
def psS (b : Nat → Int32) (n : Nat) : Nat → Nat
  | 0 => skS b n 0
  | k + 1 => if psS b n k < n then skS b n (tkE b n (psS b n k)) else psS b n k
def tcS (b : Nat → Int32) (n k : Nat) : Int32 := if psS b n k < n then tkC b n (psS b n k) else 14
def tnS (b : Nat → Int32) (n k : Nat) : Int32 := if psS b n k < n then tkN b n (psS b n k) else 0
theorem tkE_gt {b : Nat → Int32} {n p : Nat} (h : p < n) : p < tkE b n p ∧ tkE b n p ≤ n := by
  unfold tkE
  split
  · rename_i h1
    have e : enR b n 97 122 p = enR b n 97 122 (p + 1) := ruP_y h h1
    have := enR_le (b := b) (n := n) (lw := 97) (hi := 122) (p := p + 1)
    rw [e]; exact ⟨by omega, this.2 (by omega)⟩
  · split
    · rename_i h0 h1
      have e : enR b n 48 57 p = enR b n 48 57 (p + 1) := ruP_y h h1
      have := enR_le (b := b) (n := n) (lw := 48) (hi := 57) (p := p + 1)
      rw [e]; exact ⟨by omega, this.2 (by omega)⟩
    · exact ⟨by omega, by omega⟩
theorem psS_le {b : Nat → Int32} {n : Nat} : ∀ k, psS b n k ≤ n
  | 0 => skS_le.2 (by omega)
  | k + 1 => by
    rw [psS]; split
    · rename_i h; exact skS_le.2 (tkE_gt h).2
    · exact psS_le k
theorem psS_ge {b : Nat → Int32} {n : Nat} : ∀ k, psS b n k < n → k ≤ psS b n k
  | 0, _ => by omega
  | k + 1, h => by
    rw [psS] at h ⊢
    by_cases h0 : psS b n k < n
    · rw [if_pos h0]
      have h1 := psS_ge k h0
      have h2 := (tkE_gt (b := b) h0).1
      have h3 := (skS_le (b := b) (n := n) (p := tkE b n (psS b n k))).1
      omega
    · rw [if_neg h0] at h; omega
theorem psS_mono {b : Nat → Int32} {n : Nat} {k : Nat} (h : psS b n (k + 1) < n) : psS b n k < n := by
  rw [psS] at h; split at h
  · assumption
  · exact h
theorem psS_end {b : Nat → Int32} {n k : Nat} (h : ¬ psS b n k < n) : ∀ j, k ≤ j → psS b n j = n := by
  intro j hj
  induction j with
  | zero =>
    have : k = 0 := by omega
    subst this
    have := psS_le (b := b) (n := n) 0; omega
  | succ j ih =>
    by_cases e : k = j + 1
    · subst e; have := psS_le (b := b) (n := n) (j + 1); omega
    · have h2 := ih (by omega)
      rw [psS, if_neg (by omega)]; exact h2
/-- the tape's bytes -/
abbrev tpR (M : Nat → Nat → Int32) (n : Nat) : Prop := M 5 1 = nI n ∧ n ≤ 160
/-- the tape is cut into tokens -/
def scR (M : Nat → Nat → Int32) (n : Nat) : Prop := tpR M n ∧ ∃ N, N ≤ n ∧ ¬ psS (M 6) n N < n ∧ (∀ k, k < N → psS (M 6) n k < n) ∧ M 5 5 = nI (N + 1) ∧ ∀ k, k ≤ N → M 7 k = tcS (M 6) n k ∧ M 8 k = nI (psS (M 6) n k) ∧ M 9 k = tnS (M 6) n k
theorem scR_c {M z : Nat → Nat → Int32} {n : Nat} (h : scR M n) (h5 : z 5 = M 5) (h6 : z 6 = M 6) (h7 : z 7 = M 7) (h8 : z 8 = M 8) (h9 : z 9 = M 9) : scR z n := by
  unfold scR tpR at *
  rw [h5, h6, h7, h8, h9]; exact h

set_option maxHeartbeats 4000000 in
set_option maxRecDepth 100000 in
theorem c_X6_byteAt (l : Launch) (g : jG) (a : Nat → Nat) (M : (Nat → Nat → Int32)) (p : Int32) (n : Nat) (hT : tpR M n) (q : Nat) (hp : p = nI q) (hq : q < 1000) : Ci l g yX6_byteAt cX6_byteAt 2 .int 0 0 0 0 (cW g a) [.ref (a 5), .int p] M (fun r z => r = btS (M 6) n q ∧ z = M) := by
  refine mk_i (by decide +kernel) rfl (fun KK hKl hKg C hin hret => ?_)
  subst hKl; subst hKg
  refine j_lv (lv' := [(0, _), (1, _)]) rfl ?_
  subst hp; have hT2 := hT.2
  have e_n : (M 5 1).toInt = n := by rw [hT.1]; exact nI_toInt (by have := hT.2; omega)
  have e_q : (nI q).toInt = q := nI_toInt (by omega)
  refine j_iload_n C dX6_byteAt_0 rfl rfl ?_
  refine j_if_lt (tgt := 30) C dX6_byteAt_1 (by decide) (fun c_1 => ?_) (fun c_1 => ?_)
  · skip
    exact absurd c_1 (nI_pos (by omega))
  · skip
    refine j_iload_n C dX6_byteAt_4 rfl rfl ?_
    refine j_aload_n C dX6_byteAt_5 rfl rfl ?_
    refine j_get C dX6_byteAt_6 jf_RX6_24 (wO cTp) rfl ?_
    refine j_icmp_ge (tgt := 30) C dX6_byteAt_9 (by decide) (fun c_2 => ?_) (fun c_2 => ?_)
    · skip
      refine j_iconst (v := -1) C dX6_byteAt_30 rfl ?_
      refine hret _ _ _ _ dX6_byteAt_31 rfl ?_
      exact ⟨(if_neg (by simp only [Int32.lt_iff_toInt_lt, Int32.le_iff_toInt_le, ← Int32.toInt_inj, Int32.reduceToInt, e_n, e_q] at c_2; omega)).symm, rfl⟩
    · skip
      refine j_iload_n C dX6_byteAt_12 rfl rfl ?_
      refine j_aload_n C dX6_byteAt_13 rfl rfl ?_
      refine j_get C dX6_byteAt_14 jf_RX6_9 (wO cTp) rfl ?_
      refine j_alen (v := 160) C dX6_byteAt_17 (wA cA6) gty_0 rfl ?_
      refine j_icmp_ge (tgt := 30) C dX6_byteAt_18 (by decide) (fun c_3 => ?_) (fun c_3 => ?_)
      · skip
        exact absurd c_3 (nI_ge (show q < 160 by simp only [Int32.lt_iff_toInt_lt, Int32.le_iff_toInt_le, ← Int32.toInt_inj, Int32.reduceToInt, e_n, e_q] at c_2; omega) (by decide))
      · skip
        refine j_aload_n C dX6_byteAt_21 rfl rfl ?_
        refine j_get C dX6_byteAt_22 jf_RX6_9 (wO cTp) rfl ?_
        refine j_iload_n C dX6_byteAt_25 rfl rfl ?_
        refine j_iald C (q) dX6_byteAt_26 (wA cA6) (rfl) (by simp only [Int32.lt_iff_toInt_lt, Int32.le_iff_toInt_le, ← Int32.toInt_inj, Int32.reduceToInt, e_n, e_q] at c_2; omega) (by decide) ?_
        refine j_goto (tgt := 31) C dX6_byteAt_27 (by decide) ?_
        refine hret _ _ _ _ dX6_byteAt_31 rfl ?_
        exact ⟨(if_pos (by simp only [Int32.lt_iff_toInt_lt, Int32.le_iff_toInt_le, ← Int32.toInt_inj, Int32.reduceToInt, e_n, e_q] at c_2; omega)).symm, rfl⟩
set_option maxHeartbeats 4000000 in
set_option maxRecDepth 100000 in
theorem c_X6_behindBlanks (l : Launch) (g : jG) (a : Nat → Nat) (M : (Nat → Nat → Int32)) (p : Int32) (n : Nat) (hT : tpR M n) (q : Nat) (hp : p = nI q) (hq : q ≤ n) : Ci l g yX6_behindBlanks cX6_behindBlanks 3 .int 1 21 0 0 (cW g a) [.ref (a 5), .int p] M (fun r z => r = nI (skS (M 6) n q) ∧ z = M) := by
  refine mk_i (by decide +kernel) rfl (fun KK hKl hKg C hin hret => ?_)
  subst hKl; subst hKg
  refine j_lv (lv' := [(0, _), (1, _)]) rfl ?_
  subst hp; have hT2 := hT.2
  have e_n : (M 5 1).toInt = n := by rw [hT.1]; exact nI_toInt (by have := hT.2; omega)
  refine j_iload_n C dX6_behindBlanks_0 rfl rfl ?_
  refine j_istore_n (lv' := [(2, _), (0, _), (1, _)]) C dX6_behindBlanks_1 rfl (by decide) rfl ?_
  have L_2 : ∀ k : Nat, ∀ (i : Nat), i ≤ n → n < i + k → (skS (M 6) n q = skS (M 6) n i) → J KK (cW (kG KK) a) 0 0 M [(0, .ref (a 5)), (1, .int (nI q)), (2, .int (nI i))] 2 [] := by
    intro k
    induction k with
    | zero => intro i h1 hk hs; omega
    | succ k ih =>
      intro i h1 hk hs
      have e_i : (nI i).toInt = i := nI_toInt (by omega)
      refine j_iload_n C dX6_behindBlanks_2 rfl rfl ?_
      refine j_aload_n C dX6_behindBlanks_3 rfl rfl ?_
      refine j_get C dX6_behindBlanks_4 jf_RX6_24 (wO cTp) rfl ?_
      refine j_icmp_ge (tgt := 36) C dX6_behindBlanks_7 (by decide) (fun c_1 => ?_) (fun c_1 => ?_)
      · skip
        have hi : ¬ i < n := by simp only [Int32.lt_iff_toInt_lt, Int32.le_iff_toInt_le, ← Int32.toInt_inj, Int32.reduceToInt, e_n, e_i] at c_1; omega
        have hno : ¬ (i < n ∧ isB (M 6 i)) := fun h => hi h.1
        refine j_iload_n C dX6_behindBlanks_36 rfl rfl ?_
        refine hret _ _ _ _ dX6_behindBlanks_37 rfl ?_
        exact ⟨by rw [hs]; exact congrArg nI (ruP_n hno).symm, rfl⟩
      · skip
        have hi : i < n := by simp only [Int32.lt_iff_toInt_lt, Int32.le_iff_toInt_le, ← Int32.toInt_inj, Int32.reduceToInt, e_n, e_i] at c_1; omega
        refine j_aload_n C dX6_behindBlanks_10 rfl rfl ?_
        refine j_iload_n C dX6_behindBlanks_11 rfl rfl ?_
        refine j_calliv C (c_X6_byteAt _ _ _ _ _ n hT i rfl (by omega)) dX6_behindBlanks_12 jm_RX6_42 ⟨_, _, _, _, wO cTp, rfl, rfl⟩ ⟨by decide, by decide, by decide, by decide⟩ rfl (Nat.le_of_ble_eq_true rfl) (fun r_12 z_12 hz_12 => ?_)
        obtain ⟨hr, hz⟩ := hz_12; have hz := hz.symm; subst hz; rw [btS, if_pos hi] at hr; have hr := hr.symm; subst hr
        refine j_bipush (v := 32) C dX6_behindBlanks_15 rfl ?_
        refine j_icmp_eq (tgt := 30) C dX6_behindBlanks_17 (by decide) (fun c_17 => ?_) (fun c_17 => ?_)
        · skip
          have hbl : isB (M 6 i) := Or.inl c_17
          refine j_iinc (lv' := [(2, _), (0, _), (1, _)]) (v := nI (i + 1)) C dX6_behindBlanks_30 rfl (j_inc1 i) (by decide) rfl ?_
          refine j_goto (tgt := 2) C dX6_behindBlanks_33 (by decide) ?_
          refine j_lv (lv' := [(0, _), (1, _), (2, _)]) rfl ?_
          exact ih (i + 1) (by omega) (by omega) (hs.trans (ruP_y hi hbl))
        · skip
          refine j_aload_n C dX6_behindBlanks_20 rfl rfl ?_
          refine j_iload_n C dX6_behindBlanks_21 rfl rfl ?_
          refine j_calliv C (c_X6_byteAt _ _ _ _ _ n hT i rfl (by omega)) dX6_behindBlanks_22 jm_RX6_42 ⟨_, _, _, _, wO cTp, rfl, rfl⟩ ⟨by decide, by decide, by decide, by decide⟩ rfl (Nat.le_of_ble_eq_true rfl) (fun r_22 z_22 hz_22 => ?_)
          obtain ⟨hr, hz⟩ := hz_22; have hz := hz.symm; subst hz; rw [btS, if_pos hi] at hr; have hr := hr.symm; subst hr
          refine j_bipush (v := 10) C dX6_behindBlanks_25 rfl ?_
          refine j_icmp_ne (tgt := 36) C dX6_behindBlanks_27 (by decide) (fun c_27 => ?_) (fun c_27 => ?_)
          · skip
            have hno : ¬ (i < n ∧ isB (M 6 i)) := fun h => h.2.elim c_17 c_27
            refine j_iload_n C dX6_behindBlanks_36 rfl rfl ?_
            refine hret _ _ _ _ dX6_behindBlanks_37 rfl ?_
            exact ⟨by rw [hs]; exact congrArg nI (ruP_n hno).symm, rfl⟩
          · skip
            have hbl : isB (M 6 i) := Or.inr c_27
            refine j_iinc (lv' := [(2, _), (0, _), (1, _)]) (v := nI (i + 1)) C dX6_behindBlanks_30 rfl (j_inc1 i) (by decide) rfl ?_
            refine j_goto (tgt := 2) C dX6_behindBlanks_33 (by decide) ?_
            refine j_lv (lv' := [(0, _), (1, _), (2, _)]) rfl ?_
            exact ih (i + 1) (by omega) (by omega) (hs.trans (ruP_y hi hbl))
  refine j_lv (lv' := [(0, _), (1, _), (2, _)]) rfl ?_
  exact L_2 (n + 1) q hq (by omega) rfl
set_option maxHeartbeats 4000000 in
set_option maxRecDepth 100000 in
theorem c_X6_endOfRun (l : Launch) (g : jG) (a : Nat → Nat) (M : (Nat → Nat → Int32)) (p : Int32) (lw : Int32) (hi : Int32) (n : Nat) (hT : tpR M n) (q : Nat) (hp : p = nI q) (hq : q ≤ n) : Ci l g yX6_endOfRun cX6_endOfRun 5 .int 1 21 0 0 (cW g a) [.ref (a 5), .int p, .int lw, .int hi] M (fun r z => r = nI (enR (M 6) n lw hi q) ∧ z = M) := by
  refine mk_i (by decide +kernel) rfl (fun KK hKl hKg C hin hret => ?_)
  subst hKl; subst hKg
  refine j_lv (lv' := [(0, _), (1, _), (2, _), (3, _)]) rfl ?_
  subst hp; have hT2 := hT.2
  have e_n : (M 5 1).toInt = n := by rw [hT.1]; exact nI_toInt (by have := hT.2; omega)
  refine j_iload_n C dX6_endOfRun_0 rfl rfl ?_
  refine j_istore (lv' := [(4, _), (0, _), (1, _), (2, _), (3, _)]) C dX6_endOfRun_1 (by decide) rfl ?_
  have L_3 : ∀ k : Nat, ∀ (i : Nat), i ≤ n → n < i + k → (enR (M 6) n lw hi q = enR (M 6) n lw hi i) → J KK (cW (kG KK) a) 0 0 M [(0, .ref (a 5)), (1, .int (nI q)), (2, .int lw), (3, .int hi), (4, .int (nI i))] 3 [] := by
    intro k
    induction k with
    | zero => intro i h1 hk hs; omega
    | succ k ih =>
      intro i h1 hk hs
      have e_i : (nI i).toInt = i := nI_toInt (by omega)
      refine j_iload C dX6_endOfRun_3 rfl ?_
      refine j_aload_n C dX6_endOfRun_5 rfl rfl ?_
      refine j_get C dX6_endOfRun_6 jf_RX6_24 (wO cTp) rfl ?_
      refine j_icmp_ge (tgt := 38) C dX6_endOfRun_9 (by decide) (fun c_1 => ?_) (fun c_1 => ?_)
      · skip
        have hno : ¬ (i < n ∧ (lw ≤ M 6 i ∧ M 6 i ≤ hi)) := fun h => absurd h.1 (by simp only [Int32.lt_iff_toInt_lt, Int32.le_iff_toInt_le, ← Int32.toInt_inj, Int32.reduceToInt, e_n, e_i] at c_1; omega)
        refine j_iload C dX6_endOfRun_38 rfl ?_
        refine hret _ _ _ _ dX6_endOfRun_40 rfl ?_
        exact ⟨by rw [hs]; exact congrArg nI (ruP_n (P := fun v => lw ≤ v ∧ v ≤ hi) hno).symm, rfl⟩
      · skip
        have hi9 : i < n := by simp only [Int32.lt_iff_toInt_lt, Int32.le_iff_toInt_le, ← Int32.toInt_inj, Int32.reduceToInt, e_n, e_i] at c_1; omega
        refine j_aload_n C dX6_endOfRun_12 rfl rfl ?_
        refine j_iload C dX6_endOfRun_13 rfl ?_
        refine j_calliv C (c_X6_byteAt _ _ _ _ _ n hT i rfl (by omega)) dX6_endOfRun_15 jm_RX6_42 ⟨_, _, _, _, wO cTp, rfl, rfl⟩ ⟨by decide, by decide, by decide, by decide⟩ rfl (Nat.le_of_ble_eq_true rfl) (fun r_15 z_15 hz_15 => ?_)
        obtain ⟨hr, hz⟩ := hz_15; have hz := hz.symm; subst hz; rw [btS, if_pos hi9] at hr; have hr := hr.symm; subst hr
        refine j_iload_n C dX6_endOfRun_18 rfl rfl ?_
        refine j_icmp_lt (tgt := 38) C dX6_endOfRun_19 (by decide) (fun c_19 => ?_) (fun c_19 => ?_)
        · skip
          have hno : ¬ (i < n ∧ (lw ≤ M 6 i ∧ M 6 i ≤ hi)) := fun h => by have := h.2.1; simp only [Int32.lt_iff_toInt_lt, Int32.le_iff_toInt_le, ← Int32.toInt_inj, Int32.reduceToInt] at *; omega
          refine j_iload C dX6_endOfRun_38 rfl ?_
          refine hret _ _ _ _ dX6_endOfRun_40 rfl ?_
          exact ⟨by rw [hs]; exact congrArg nI (ruP_n (P := fun v => lw ≤ v ∧ v ≤ hi) hno).symm, rfl⟩
        · skip
          refine j_aload_n C dX6_endOfRun_22 rfl rfl ?_
          refine j_iload C dX6_endOfRun_23 rfl ?_
          refine j_calliv C (c_X6_byteAt _ _ _ _ _ n hT i rfl (by omega)) dX6_endOfRun_25 jm_RX6_42 ⟨_, _, _, _, wO cTp, rfl, rfl⟩ ⟨by decide, by decide, by decide, by decide⟩ rfl (Nat.le_of_ble_eq_true rfl) (fun r_25 z_25 hz_25 => ?_)
          obtain ⟨hr, hz⟩ := hz_25; have hz := hz.symm; subst hz; rw [btS, if_pos hi9] at hr; have hr := hr.symm; subst hr
          refine j_iload_n C dX6_endOfRun_28 rfl rfl ?_
          refine j_icmp_gt (tgt := 38) C dX6_endOfRun_29 (by decide) (fun c_29 => ?_) (fun c_29 => ?_)
          · skip
            have hno : ¬ (i < n ∧ (lw ≤ M 6 i ∧ M 6 i ≤ hi)) := fun h => by have := h.2.2; simp only [Int32.lt_iff_toInt_lt, Int32.le_iff_toInt_le, ← Int32.toInt_inj, Int32.reduceToInt] at *; omega
            refine j_iload C dX6_endOfRun_38 rfl ?_
            refine hret _ _ _ _ dX6_endOfRun_40 rfl ?_
            exact ⟨by rw [hs]; exact congrArg nI (ruP_n (P := fun v => lw ≤ v ∧ v ≤ hi) hno).symm, rfl⟩
          · skip
            have hbl : lw ≤ M 6 i ∧ M 6 i ≤ hi := by simp only [Int32.lt_iff_toInt_lt, Int32.le_iff_toInt_le, ← Int32.toInt_inj, Int32.reduceToInt] at c_19 c_29 ⊢; omega
            refine j_iinc (lv' := [(4, _), (0, _), (1, _), (2, _), (3, _)]) (v := nI (i + 1)) C dX6_endOfRun_32 rfl (j_inc1 i) (by decide) rfl ?_
            refine j_goto (tgt := 3) C dX6_endOfRun_35 (by decide) ?_
            refine j_lv (lv' := [(0, _), (1, _), (2, _), (3, _), (4, _)]) rfl ?_
            exact ih (i + 1) (by omega) (by omega) (hs.trans (ruP_y hi9 hbl))
  refine j_lv (lv' := [(0, _), (1, _), (2, _), (3, _), (4, _)]) rfl ?_
  exact L_3 (n + 1) q hq (by omega) rfl
set_option maxHeartbeats 4000000 in
set_option maxRecDepth 100000 in
theorem c_X6_numberOf (l : Launch) (g : jG) (a : Nat → Nat) (M : (Nat → Nat → Int32)) (p : Int32) (q : Int32) (n : Nat) (hT : tpR M n) (s e : Nat) (hp : p = nI s) (hq : q = nI e) (he : e ≤ n) (hse : s ≤ e) : Ci l g yX6_numberOf cX6_numberOf 5 .int 1 21 0 0 (cW g a) [.ref (a 5), .int p, .int q] M (fun r z => r = nuS (M 6) s (e - s) ∧ z = M) := by
  refine mk_i (by decide +kernel) rfl (fun KK hKl hKg C hin hret => ?_)
  subst hKl; subst hKg
  refine j_lv (lv' := [(0, _), (1, _), (2, _)]) rfl ?_
  subst hp; subst hq; have hT2 := hT.2
  have e_n : (M 5 1).toInt = n := by rw [hT.1]; exact nI_toInt (by have := hT.2; omega)
  refine j_iconst (v := 0) C dX6_numberOf_0 rfl ?_
  refine j_istore_n (lv' := [(3, _), (0, _), (1, _), (2, _)]) C dX6_numberOf_1 rfl (by decide) rfl ?_
  refine j_iload_n C dX6_numberOf_2 rfl rfl ?_
  refine j_istore (lv' := [(4, _), (3, _), (0, _), (1, _), (2, _)]) C dX6_numberOf_3 (by decide) rfl ?_
  have L_5 : ∀ k : Nat, ∀ (i : Nat), s ≤ i → i ≤ e → e < i + k → J KK (cW (kG KK) a) 0 0 M [(0, .ref (a 5)), (1, .int (nI s)), (2, .int (nI e)), (3, .int (nuS (M 6) s (i - s))), (4, .int (nI i))] 5 [] := by
    intro k
    induction k with
    | zero => intro i h0 h1 hk; omega
    | succ k ih =>
      intro i h0 h1 hk
      have e_i : (nI i).toInt = i := nI_toInt (by omega); have e_e : (nI e).toInt = e := nI_toInt (by omega)
      refine j_iload C dX6_numberOf_5 rfl ?_
      refine j_iload_n C dX6_numberOf_7 rfl rfl ?_
      refine j_icmp_ge (tgt := 32) C dX6_numberOf_8 (by decide) (fun c_1 => ?_) (fun c_1 => ?_)
      · skip
        have hi : i = e := by simp only [Int32.lt_iff_toInt_lt, Int32.le_iff_toInt_le, ← Int32.toInt_inj, Int32.reduceToInt, e_e, e_i] at c_1; omega
        subst hi
        refine j_iload_n C dX6_numberOf_32 rfl rfl ?_
        refine hret _ _ _ _ dX6_numberOf_33 rfl ?_
        exact ⟨rfl, rfl⟩
      · skip
        have hi : i < e := by simp only [Int32.lt_iff_toInt_lt, Int32.le_iff_toInt_le, ← Int32.toInt_inj, Int32.reduceToInt, e_e, e_i] at c_1; omega
        refine j_iload_n C dX6_numberOf_11 rfl rfl ?_
        refine j_bipush (v := 10) C dX6_numberOf_12 rfl ?_
        refine j_imul C dX6_numberOf_14 ?_
        refine j_aload_n C dX6_numberOf_15 rfl rfl ?_
        refine j_iload C dX6_numberOf_16 rfl ?_
        refine j_calliv C (c_X6_byteAt _ _ _ _ _ n hT i rfl (by omega)) dX6_numberOf_18 jm_RX6_42 ⟨_, _, _, _, wO cTp, rfl, rfl⟩ ⟨by decide, by decide, by decide, by decide⟩ rfl (Nat.le_of_ble_eq_true rfl) (fun r_18 z_18 hz_18 => ?_)
        obtain ⟨hr, hz⟩ := hz_18; have hz := hz.symm; subst hz; rw [btS, if_pos (show i < n by omega)] at hr; have hr := hr.symm; subst hr
        refine j_iadd C dX6_numberOf_21 ?_
        refine j_bipush (v := 48) C dX6_numberOf_22 rfl ?_
        refine j_isub C dX6_numberOf_24 ?_
        refine j_istore_n (lv' := [(3, _), (0, _), (1, _), (2, _), (4, _)]) C dX6_numberOf_25 rfl (by decide) rfl ?_
        refine j_iinc (lv' := [(4, _), (3, _), (0, _), (1, _), (2, _)]) (v := nI (i + 1)) C dX6_numberOf_26 rfl (j_inc1 i) (by decide) rfl ?_
        refine j_goto (tgt := 5) C dX6_numberOf_29 (by decide) ?_
        refine j_lv (lv' := [(0, _), (1, _), (2, _), (3, _), (4, _)]) rfl ?_
        have h9 := ih (i + 1) (by omega) (by omega) (by omega)
        rw [show i + 1 - s = (i - s) + 1 by omega, nuS, show s + (i - s) = i by omega] at h9
        exact h9
  refine j_lv (lv' := [(0, _), (1, _), (2, _), (3, _), (4, _)]) rfl ?_
  have h9 := L_5 (e + 1) s (by omega) hse (by omega)
  rw [Nat.sub_self] at h9
  exact h9
set_option maxHeartbeats 4000000 in
set_option maxRecDepth 100000 in
theorem c_X6_isSign (l : Launch) (g : jG) {S : Type} (wd : S → va_W) (x : S) (v : Int32)  : Ci l g yX6_isSign cX6_isSign 1 .boolean 0 0 0 0 wd [.int v] x (fun r z => ((r = 1 ∧ isS v) ∨ (r = 0 ∧ ¬ isS v)) ∧ z = x) := by
  refine mk_i (by decide +kernel) rfl (fun KK hKl hKg C hin hret => ?_)
  subst hKl; subst hKg
  refine j_lv (lv' := [(0, _)]) rfl ?_
  refine j_iload_n C dX6_isSign_0 rfl rfl ?_
  by_cases s_1 : v = 40
  · refine j_tableIn (off := 103) (tgt := 104) C dX6_isSign_1 (by rw [s_1]; decide) (by rw [s_1]; decide) (by rw [s_1]; rfl) (by decide) ?_
    refine j_iconst (v := 1) C dX6_isSign_104 rfl ?_
    refine hret _ _ _ _ dX6_isSign_105 rfl ?_
    exact ⟨Or.inl ⟨rfl, by unfold isS; simp [*]⟩, rfl⟩
  by_cases s_2 : v = 41
  · refine j_tableIn (off := 103) (tgt := 104) C dX6_isSign_1 (by rw [s_2]; decide) (by rw [s_2]; decide) (by rw [s_2]; rfl) (by decide) ?_
    refine j_iconst (v := 1) C dX6_isSign_104 rfl ?_
    refine hret _ _ _ _ dX6_isSign_105 rfl ?_
    exact ⟨Or.inl ⟨rfl, by unfold isS; simp [*]⟩, rfl⟩
  by_cases s_3 : v = 42
  · refine j_tableIn (off := 103) (tgt := 104) C dX6_isSign_1 (by rw [s_3]; decide) (by rw [s_3]; decide) (by rw [s_3]; rfl) (by decide) ?_
    refine j_iconst (v := 1) C dX6_isSign_104 rfl ?_
    refine hret _ _ _ _ dX6_isSign_105 rfl ?_
    exact ⟨Or.inl ⟨rfl, by unfold isS; simp [*]⟩, rfl⟩
  by_cases s_4 : v = 43
  · refine j_tableIn (off := 103) (tgt := 104) C dX6_isSign_1 (by rw [s_4]; decide) (by rw [s_4]; decide) (by rw [s_4]; rfl) (by decide) ?_
    refine j_iconst (v := 1) C dX6_isSign_104 rfl ?_
    refine hret _ _ _ _ dX6_isSign_105 rfl ?_
    exact ⟨Or.inl ⟨rfl, by unfold isS; simp [*]⟩, rfl⟩
  by_cases s_5 : v = 44
  · refine j_tableIn (off := 105) (tgt := 106) C dX6_isSign_1 (by rw [s_5]; decide) (by rw [s_5]; decide) (by rw [s_5]; rfl) (by decide) ?_
    refine j_iconst (v := 0) C dX6_isSign_106 rfl ?_
    refine hret _ _ _ _ dX6_isSign_107 rfl ?_
    exact ⟨Or.inr ⟨rfl, by unfold isS; first | (simp [*]; done) | (rintro (h | h | h | h | h | h | h | h) <;> (first | contradiction | (rw [h] at hsw; revert hsw; decide)))⟩, rfl⟩
  by_cases s_6 : v = 45
  · refine j_tableIn (off := 103) (tgt := 104) C dX6_isSign_1 (by rw [s_6]; decide) (by rw [s_6]; decide) (by rw [s_6]; rfl) (by decide) ?_
    refine j_iconst (v := 1) C dX6_isSign_104 rfl ?_
    refine hret _ _ _ _ dX6_isSign_105 rfl ?_
    exact ⟨Or.inl ⟨rfl, by unfold isS; simp [*]⟩, rfl⟩
  by_cases s_7 : v = 46
  · refine j_tableIn (off := 105) (tgt := 106) C dX6_isSign_1 (by rw [s_7]; decide) (by rw [s_7]; decide) (by rw [s_7]; rfl) (by decide) ?_
    refine j_iconst (v := 0) C dX6_isSign_106 rfl ?_
    refine hret _ _ _ _ dX6_isSign_107 rfl ?_
    exact ⟨Or.inr ⟨rfl, by unfold isS; first | (simp [*]; done) | (rintro (h | h | h | h | h | h | h | h) <;> (first | contradiction | (rw [h] at hsw; revert hsw; decide)))⟩, rfl⟩
  by_cases s_8 : v = 47
  · refine j_tableIn (off := 105) (tgt := 106) C dX6_isSign_1 (by rw [s_8]; decide) (by rw [s_8]; decide) (by rw [s_8]; rfl) (by decide) ?_
    refine j_iconst (v := 0) C dX6_isSign_106 rfl ?_
    refine hret _ _ _ _ dX6_isSign_107 rfl ?_
    exact ⟨Or.inr ⟨rfl, by unfold isS; first | (simp [*]; done) | (rintro (h | h | h | h | h | h | h | h) <;> (first | contradiction | (rw [h] at hsw; revert hsw; decide)))⟩, rfl⟩
  by_cases s_9 : v = 48
  · refine j_tableIn (off := 105) (tgt := 106) C dX6_isSign_1 (by rw [s_9]; decide) (by rw [s_9]; decide) (by rw [s_9]; rfl) (by decide) ?_
    refine j_iconst (v := 0) C dX6_isSign_106 rfl ?_
    refine hret _ _ _ _ dX6_isSign_107 rfl ?_
    exact ⟨Or.inr ⟨rfl, by unfold isS; first | (simp [*]; done) | (rintro (h | h | h | h | h | h | h | h) <;> (first | contradiction | (rw [h] at hsw; revert hsw; decide)))⟩, rfl⟩
  by_cases s_10 : v = 49
  · refine j_tableIn (off := 105) (tgt := 106) C dX6_isSign_1 (by rw [s_10]; decide) (by rw [s_10]; decide) (by rw [s_10]; rfl) (by decide) ?_
    refine j_iconst (v := 0) C dX6_isSign_106 rfl ?_
    refine hret _ _ _ _ dX6_isSign_107 rfl ?_
    exact ⟨Or.inr ⟨rfl, by unfold isS; first | (simp [*]; done) | (rintro (h | h | h | h | h | h | h | h) <;> (first | contradiction | (rw [h] at hsw; revert hsw; decide)))⟩, rfl⟩
  by_cases s_11 : v = 50
  · refine j_tableIn (off := 105) (tgt := 106) C dX6_isSign_1 (by rw [s_11]; decide) (by rw [s_11]; decide) (by rw [s_11]; rfl) (by decide) ?_
    refine j_iconst (v := 0) C dX6_isSign_106 rfl ?_
    refine hret _ _ _ _ dX6_isSign_107 rfl ?_
    exact ⟨Or.inr ⟨rfl, by unfold isS; first | (simp [*]; done) | (rintro (h | h | h | h | h | h | h | h) <;> (first | contradiction | (rw [h] at hsw; revert hsw; decide)))⟩, rfl⟩
  by_cases s_12 : v = 51
  · refine j_tableIn (off := 105) (tgt := 106) C dX6_isSign_1 (by rw [s_12]; decide) (by rw [s_12]; decide) (by rw [s_12]; rfl) (by decide) ?_
    refine j_iconst (v := 0) C dX6_isSign_106 rfl ?_
    refine hret _ _ _ _ dX6_isSign_107 rfl ?_
    exact ⟨Or.inr ⟨rfl, by unfold isS; first | (simp [*]; done) | (rintro (h | h | h | h | h | h | h | h) <;> (first | contradiction | (rw [h] at hsw; revert hsw; decide)))⟩, rfl⟩
  by_cases s_13 : v = 52
  · refine j_tableIn (off := 105) (tgt := 106) C dX6_isSign_1 (by rw [s_13]; decide) (by rw [s_13]; decide) (by rw [s_13]; rfl) (by decide) ?_
    refine j_iconst (v := 0) C dX6_isSign_106 rfl ?_
    refine hret _ _ _ _ dX6_isSign_107 rfl ?_
    exact ⟨Or.inr ⟨rfl, by unfold isS; first | (simp [*]; done) | (rintro (h | h | h | h | h | h | h | h) <;> (first | contradiction | (rw [h] at hsw; revert hsw; decide)))⟩, rfl⟩
  by_cases s_14 : v = 53
  · refine j_tableIn (off := 105) (tgt := 106) C dX6_isSign_1 (by rw [s_14]; decide) (by rw [s_14]; decide) (by rw [s_14]; rfl) (by decide) ?_
    refine j_iconst (v := 0) C dX6_isSign_106 rfl ?_
    refine hret _ _ _ _ dX6_isSign_107 rfl ?_
    exact ⟨Or.inr ⟨rfl, by unfold isS; first | (simp [*]; done) | (rintro (h | h | h | h | h | h | h | h) <;> (first | contradiction | (rw [h] at hsw; revert hsw; decide)))⟩, rfl⟩
  by_cases s_15 : v = 54
  · refine j_tableIn (off := 105) (tgt := 106) C dX6_isSign_1 (by rw [s_15]; decide) (by rw [s_15]; decide) (by rw [s_15]; rfl) (by decide) ?_
    refine j_iconst (v := 0) C dX6_isSign_106 rfl ?_
    refine hret _ _ _ _ dX6_isSign_107 rfl ?_
    exact ⟨Or.inr ⟨rfl, by unfold isS; first | (simp [*]; done) | (rintro (h | h | h | h | h | h | h | h) <;> (first | contradiction | (rw [h] at hsw; revert hsw; decide)))⟩, rfl⟩
  by_cases s_16 : v = 55
  · refine j_tableIn (off := 105) (tgt := 106) C dX6_isSign_1 (by rw [s_16]; decide) (by rw [s_16]; decide) (by rw [s_16]; rfl) (by decide) ?_
    refine j_iconst (v := 0) C dX6_isSign_106 rfl ?_
    refine hret _ _ _ _ dX6_isSign_107 rfl ?_
    exact ⟨Or.inr ⟨rfl, by unfold isS; first | (simp [*]; done) | (rintro (h | h | h | h | h | h | h | h) <;> (first | contradiction | (rw [h] at hsw; revert hsw; decide)))⟩, rfl⟩
  by_cases s_17 : v = 56
  · refine j_tableIn (off := 105) (tgt := 106) C dX6_isSign_1 (by rw [s_17]; decide) (by rw [s_17]; decide) (by rw [s_17]; rfl) (by decide) ?_
    refine j_iconst (v := 0) C dX6_isSign_106 rfl ?_
    refine hret _ _ _ _ dX6_isSign_107 rfl ?_
    exact ⟨Or.inr ⟨rfl, by unfold isS; first | (simp [*]; done) | (rintro (h | h | h | h | h | h | h | h) <;> (first | contradiction | (rw [h] at hsw; revert hsw; decide)))⟩, rfl⟩
  by_cases s_18 : v = 57
  · refine j_tableIn (off := 105) (tgt := 106) C dX6_isSign_1 (by rw [s_18]; decide) (by rw [s_18]; decide) (by rw [s_18]; rfl) (by decide) ?_
    refine j_iconst (v := 0) C dX6_isSign_106 rfl ?_
    refine hret _ _ _ _ dX6_isSign_107 rfl ?_
    exact ⟨Or.inr ⟨rfl, by unfold isS; first | (simp [*]; done) | (rintro (h | h | h | h | h | h | h | h) <;> (first | contradiction | (rw [h] at hsw; revert hsw; decide)))⟩, rfl⟩
  by_cases s_19 : v = 58
  · refine j_tableIn (off := 105) (tgt := 106) C dX6_isSign_1 (by rw [s_19]; decide) (by rw [s_19]; decide) (by rw [s_19]; rfl) (by decide) ?_
    refine j_iconst (v := 0) C dX6_isSign_106 rfl ?_
    refine hret _ _ _ _ dX6_isSign_107 rfl ?_
    exact ⟨Or.inr ⟨rfl, by unfold isS; first | (simp [*]; done) | (rintro (h | h | h | h | h | h | h | h) <;> (first | contradiction | (rw [h] at hsw; revert hsw; decide)))⟩, rfl⟩
  by_cases s_20 : v = 59
  · refine j_tableIn (off := 103) (tgt := 104) C dX6_isSign_1 (by rw [s_20]; decide) (by rw [s_20]; decide) (by rw [s_20]; rfl) (by decide) ?_
    refine j_iconst (v := 1) C dX6_isSign_104 rfl ?_
    refine hret _ _ _ _ dX6_isSign_105 rfl ?_
    exact ⟨Or.inl ⟨rfl, by unfold isS; simp [*]⟩, rfl⟩
  by_cases s_21 : v = 60
  · refine j_tableIn (off := 103) (tgt := 104) C dX6_isSign_1 (by rw [s_21]; decide) (by rw [s_21]; decide) (by rw [s_21]; rfl) (by decide) ?_
    refine j_iconst (v := 1) C dX6_isSign_104 rfl ?_
    refine hret _ _ _ _ dX6_isSign_105 rfl ?_
    exact ⟨Or.inl ⟨rfl, by unfold isS; simp [*]⟩, rfl⟩
  by_cases s_22 : v = 61
  · refine j_tableIn (off := 103) (tgt := 104) C dX6_isSign_1 (by rw [s_22]; decide) (by rw [s_22]; decide) (by rw [s_22]; rfl) (by decide) ?_
    refine j_iconst (v := 1) C dX6_isSign_104 rfl ?_
    refine hret _ _ _ _ dX6_isSign_105 rfl ?_
    exact ⟨Or.inl ⟨rfl, by unfold isS; simp [*]⟩, rfl⟩
  have hsw : v.toInt < 40 ∨ 61 < v.toInt := by
    have q40 : ¬ v.toInt = 40 := lv_neT s_1 rfl
    have q41 : ¬ v.toInt = 41 := lv_neT s_2 rfl
    have q42 : ¬ v.toInt = 42 := lv_neT s_3 rfl
    have q43 : ¬ v.toInt = 43 := lv_neT s_4 rfl
    have q44 : ¬ v.toInt = 44 := lv_neT s_5 rfl
    have q45 : ¬ v.toInt = 45 := lv_neT s_6 rfl
    have q46 : ¬ v.toInt = 46 := lv_neT s_7 rfl
    have q47 : ¬ v.toInt = 47 := lv_neT s_8 rfl
    have q48 : ¬ v.toInt = 48 := lv_neT s_9 rfl
    have q49 : ¬ v.toInt = 49 := lv_neT s_10 rfl
    have q50 : ¬ v.toInt = 50 := lv_neT s_11 rfl
    have q51 : ¬ v.toInt = 51 := lv_neT s_12 rfl
    have q52 : ¬ v.toInt = 52 := lv_neT s_13 rfl
    have q53 : ¬ v.toInt = 53 := lv_neT s_14 rfl
    have q54 : ¬ v.toInt = 54 := lv_neT s_15 rfl
    have q55 : ¬ v.toInt = 55 := lv_neT s_16 rfl
    have q56 : ¬ v.toInt = 56 := lv_neT s_17 rfl
    have q57 : ¬ v.toInt = 57 := lv_neT s_18 rfl
    have q58 : ¬ v.toInt = 58 := lv_neT s_19 rfl
    have q59 : ¬ v.toInt = 59 := lv_neT s_20 rfl
    have q60 : ¬ v.toInt = 60 := lv_neT s_21 rfl
    have q61 : ¬ v.toInt = 61 := lv_neT s_22 rfl
    omega
  refine j_tableOut (tgt := 106) C dX6_isSign_1 hsw (by decide) ?_
  refine j_iconst (v := 0) C dX6_isSign_106 rfl ?_
  refine hret _ _ _ _ dX6_isSign_107 rfl ?_
  exact ⟨Or.inr ⟨rfl, by unfold isS; first | (simp [*]; done) | (rintro (h | h | h | h | h | h | h | h) <;> (first | contradiction | (rw [h] at hsw; revert hsw; decide)))⟩, rfl⟩
set_option maxHeartbeats 4000000 in
set_option maxRecDepth 100000 in
theorem c_X6_tokenAt (l : Launch) (g : jG) (a : Nat → Nat) (M : (Nat → Nat → Int32)) (p : Int32) (n : Nat) (hS : scR M n) (q : Nat) (hp : p = nI q) (hq : q < 1000) : Ci l g yX6_tokenAt cX6_tokenAt 2 .int 0 0 0 0 (cW g a) [.ref (a 5), .int p] M (fun r z => r = tcS (M 6) n q ∧ z = M) := by
  refine mk_i (by decide +kernel) rfl (fun KK hKl hKg C hin hret => ?_)
  subst hKl; subst hKg
  refine j_lv (lv' := [(0, _), (1, _)]) rfl ?_
  subst hp
  obtain ⟨N, hN, hN1, hN2, hN3, hN4⟩ := hS.2
  have hn := hS.1.2
  have e_c : (M 5 5).toInt = N + 1 := by rw [hN3, nI_toInt (by omega)]; simp
  have e_q : (nI q).toInt = q := nI_toInt (by omega)
  refine j_iload_n C dX6_tokenAt_0 rfl rfl ?_
  refine j_if_lt (tgt := 30) C dX6_tokenAt_1 (by decide) (fun c_1 => ?_) (fun c_1 => ?_)
  · skip
    exact absurd c_1 (nI_pos (by omega))
  · skip
    refine j_iload_n C dX6_tokenAt_4 rfl rfl ?_
    refine j_aload_n C dX6_tokenAt_5 rfl rfl ?_
    refine j_get C dX6_tokenAt_6 jf_RX6_28 (wO cTp) rfl ?_
    refine j_icmp_ge (tgt := 30) C dX6_tokenAt_9 (by decide) (fun c_2 => ?_) (fun c_2 => ?_)
    · skip
      have hqN : N < q := by simp only [Int32.lt_iff_toInt_lt, Int32.le_iff_toInt_le, ← Int32.toInt_inj, Int32.reduceToInt, e_c, e_q] at c_2; omega
      have hend := psS_end hN1 q (by omega)
      refine j_bipush (v := 14) C dX6_tokenAt_30 rfl ?_
      refine hret _ _ _ _ dX6_tokenAt_32 rfl ?_
      first | exact ⟨(hN4 q hqN).1, rfl⟩ | (exact ⟨by rw [tcS, if_neg (by omega)], rfl⟩)
    · skip
      have hqN : q ≤ N := by simp only [Int32.lt_iff_toInt_lt, Int32.le_iff_toInt_le, ← Int32.toInt_inj, Int32.reduceToInt, e_c, e_q] at c_2; omega
      refine j_iload_n C dX6_tokenAt_12 rfl rfl ?_
      refine j_aload_n C dX6_tokenAt_13 rfl rfl ?_
      refine j_get C dX6_tokenAt_14 jf_RX6_15 (wO cTp) rfl ?_
      refine j_alen (v := 161) C dX6_tokenAt_17 (wA cA7) gty_0 rfl ?_
      refine j_icmp_ge (tgt := 30) C dX6_tokenAt_18 (by decide) (fun c_3 => ?_) (fun c_3 => ?_)
      · skip
        exact absurd c_3 (nI_ge (show q < 161 by omega) (by decide))
      · skip
        refine j_aload_n C dX6_tokenAt_21 rfl rfl ?_
        refine j_get C dX6_tokenAt_22 jf_RX6_15 (wO cTp) rfl ?_
        refine j_iload_n C dX6_tokenAt_25 rfl rfl ?_
        refine j_iald C (q) dX6_tokenAt_26 (wA cA7) (rfl) (by omega) (by decide) ?_
        refine j_goto (tgt := 32) C dX6_tokenAt_27 (by decide) ?_
        refine hret _ _ _ _ dX6_tokenAt_32 rfl ?_
        first | exact ⟨(hN4 q hqN).1, rfl⟩ | (exact ⟨by rw [tcS, if_neg (by omega)], rfl⟩)
set_option maxHeartbeats 4000000 in
set_option maxRecDepth 100000 in
theorem c_X6_startAt (l : Launch) (g : jG) (a : Nat → Nat) (M : (Nat → Nat → Int32)) (p : Int32) (n : Nat) (hS : scR M n) (q : Nat) (hp : p = nI q) (hq : q < 1000) : Ci l g yX6_startAt cX6_startAt 2 .int 0 0 0 0 (cW g a) [.ref (a 5), .int p] M (fun r z => r = nI (psS (M 6) n q) ∧ z = M) := by
  refine mk_i (by decide +kernel) rfl (fun KK hKl hKg C hin hret => ?_)
  subst hKl; subst hKg
  refine j_lv (lv' := [(0, _), (1, _)]) rfl ?_
  subst hp
  obtain ⟨N, hN, hN1, hN2, hN3, hN4⟩ := hS.2
  have hn := hS.1.2
  have e_c : (M 5 5).toInt = N + 1 := by rw [hN3, nI_toInt (by omega)]; simp
  have e_q : (nI q).toInt = q := nI_toInt (by omega)
  refine j_iload_n C dX6_startAt_0 rfl rfl ?_
  refine j_if_lt (tgt := 30) C dX6_startAt_1 (by decide) (fun c_1 => ?_) (fun c_1 => ?_)
  · skip
    exact absurd c_1 (nI_pos (by omega))
  · skip
    refine j_iload_n C dX6_startAt_4 rfl rfl ?_
    refine j_aload_n C dX6_startAt_5 rfl rfl ?_
    refine j_get C dX6_startAt_6 jf_RX6_28 (wO cTp) rfl ?_
    refine j_icmp_ge (tgt := 30) C dX6_startAt_9 (by decide) (fun c_2 => ?_) (fun c_2 => ?_)
    · skip
      have hqN : N < q := by simp only [Int32.lt_iff_toInt_lt, Int32.le_iff_toInt_le, ← Int32.toInt_inj, Int32.reduceToInt, e_c, e_q] at c_2; omega
      have hend := psS_end hN1 q (by omega)
      refine j_aload_n C dX6_startAt_30 rfl rfl ?_
      refine j_get C dX6_startAt_31 jf_RX6_24 (wO cTp) rfl ?_
      refine hret _ _ _ _ dX6_startAt_34 rfl ?_
      first | exact ⟨(hN4 q hqN).2.1, rfl⟩ | (exact ⟨by rw [hS.1.1, hend], rfl⟩)
    · skip
      have hqN : q ≤ N := by simp only [Int32.lt_iff_toInt_lt, Int32.le_iff_toInt_le, ← Int32.toInt_inj, Int32.reduceToInt, e_c, e_q] at c_2; omega
      refine j_iload_n C dX6_startAt_12 rfl rfl ?_
      refine j_aload_n C dX6_startAt_13 rfl rfl ?_
      refine j_get C dX6_startAt_14 jf_RX6_18 (wO cTp) rfl ?_
      refine j_alen (v := 161) C dX6_startAt_17 (wA cA8) gty_0 rfl ?_
      refine j_icmp_ge (tgt := 30) C dX6_startAt_18 (by decide) (fun c_3 => ?_) (fun c_3 => ?_)
      · skip
        exact absurd c_3 (nI_ge (show q < 161 by omega) (by decide))
      · skip
        refine j_aload_n C dX6_startAt_21 rfl rfl ?_
        refine j_get C dX6_startAt_22 jf_RX6_18 (wO cTp) rfl ?_
        refine j_iload_n C dX6_startAt_25 rfl rfl ?_
        refine j_iald C (q) dX6_startAt_26 (wA cA8) (rfl) (by omega) (by decide) ?_
        refine j_goto (tgt := 34) C dX6_startAt_27 (by decide) ?_
        refine hret _ _ _ _ dX6_startAt_34 rfl ?_
        first | exact ⟨(hN4 q hqN).2.1, rfl⟩ | (exact ⟨by rw [hS.1.1, hend], rfl⟩)
set_option maxHeartbeats 4000000 in
set_option maxRecDepth 100000 in
theorem c_X6_numberAt (l : Launch) (g : jG) (a : Nat → Nat) (M : (Nat → Nat → Int32)) (p : Int32) (n : Nat) (hS : scR M n) (q : Nat) (hp : p = nI q) (hq : q < 1000) : Ci l g yX6_numberAt cX6_numberAt 2 .int 0 0 0 0 (cW g a) [.ref (a 5), .int p] M (fun r z => r = tnS (M 6) n q ∧ z = M) := by
  refine mk_i (by decide +kernel) rfl (fun KK hKl hKg C hin hret => ?_)
  subst hKl; subst hKg
  refine j_lv (lv' := [(0, _), (1, _)]) rfl ?_
  subst hp
  obtain ⟨N, hN, hN1, hN2, hN3, hN4⟩ := hS.2
  have hn := hS.1.2
  have e_c : (M 5 5).toInt = N + 1 := by rw [hN3, nI_toInt (by omega)]; simp
  have e_q : (nI q).toInt = q := nI_toInt (by omega)
  refine j_iload_n C dX6_numberAt_0 rfl rfl ?_
  refine j_if_lt (tgt := 30) C dX6_numberAt_1 (by decide) (fun c_1 => ?_) (fun c_1 => ?_)
  · skip
    exact absurd c_1 (nI_pos (by omega))
  · skip
    refine j_iload_n C dX6_numberAt_4 rfl rfl ?_
    refine j_aload_n C dX6_numberAt_5 rfl rfl ?_
    refine j_get C dX6_numberAt_6 jf_RX6_28 (wO cTp) rfl ?_
    refine j_icmp_ge (tgt := 30) C dX6_numberAt_9 (by decide) (fun c_2 => ?_) (fun c_2 => ?_)
    · skip
      have hqN : N < q := by simp only [Int32.lt_iff_toInt_lt, Int32.le_iff_toInt_le, ← Int32.toInt_inj, Int32.reduceToInt, e_c, e_q] at c_2; omega
      have hend := psS_end hN1 q (by omega)
      refine j_iconst (v := 0) C dX6_numberAt_30 rfl ?_
      refine hret _ _ _ _ dX6_numberAt_31 rfl ?_
      first | exact ⟨(hN4 q hqN).2.2, rfl⟩ | (exact ⟨by rw [tnS, if_neg (by omega)], rfl⟩)
    · skip
      have hqN : q ≤ N := by simp only [Int32.lt_iff_toInt_lt, Int32.le_iff_toInt_le, ← Int32.toInt_inj, Int32.reduceToInt, e_c, e_q] at c_2; omega
      refine j_iload_n C dX6_numberAt_12 rfl rfl ?_
      refine j_aload_n C dX6_numberAt_13 rfl rfl ?_
      refine j_get C dX6_numberAt_14 jf_RX6_21 (wO cTp) rfl ?_
      refine j_alen (v := 161) C dX6_numberAt_17 (wA cA9) gty_0 rfl ?_
      refine j_icmp_ge (tgt := 30) C dX6_numberAt_18 (by decide) (fun c_3 => ?_) (fun c_3 => ?_)
      · skip
        exact absurd c_3 (nI_ge (show q < 161 by omega) (by decide))
      · skip
        refine j_aload_n C dX6_numberAt_21 rfl rfl ?_
        refine j_get C dX6_numberAt_22 jf_RX6_21 (wO cTp) rfl ?_
        refine j_iload_n C dX6_numberAt_25 rfl rfl ?_
        refine j_iald C (q) dX6_numberAt_26 (wA cA9) (rfl) (by omega) (by decide) ?_
        refine j_goto (tgt := 31) C dX6_numberAt_27 (by decide) ?_
        refine hret _ _ _ _ dX6_numberAt_31 rfl ?_
        first | exact ⟨(hN4 q hqN).2.2, rfl⟩ | (exact ⟨by rw [tnS, if_neg (by omega)], rfl⟩)
set_option maxHeartbeats 4000000 in
set_option maxRecDepth 100000 in
theorem c_X6_put (l : Launch) (g : jG) (a : Nat → Nat) (M : (Nat → Nat → Int32)) (t : Int32) (s : Int32) (v : Int32) (k : Nat) (hk : M 5 5 = nI k) (hk2 : k < 161) : Cv l g yX6_put cX6_put 4 0 0 0 0 (cW g a) [.ref (a 5), .int t, .int s, .int v] M (fun z => z = uM (uM (uM (uM M 7 k t) 8 k s) 9 k v) 5 5 (nI (k + 1))) := by
  refine mk_v (by decide +kernel) rfl (fun KK hKl hKg C hin hret => ?_)
  subst hKl; subst hKg
  refine j_lv (lv' := [(0, _), (1, _), (2, _), (3, _)]) rfl ?_
  refine j_aload_n C dX6_put_0 rfl rfl ?_
  refine j_get C dX6_put_1 jf_RX6_28 (wO cTp) rfl ?_
  refine j_if_lt (tgt := 83) C dX6_put_4 (by decide) (fun c_1 => ?_) (fun c_1 => ?_)
  · skip
    exact absurd c_1 (by rw [hk]; exact nI_pos (by omega))
  · skip
    refine j_aload_n C dX6_put_7 rfl rfl ?_
    refine j_get C dX6_put_8 jf_RX6_28 (wO cTp) rfl ?_
    refine j_aload_n C dX6_put_11 rfl rfl ?_
    refine j_get C dX6_put_12 jf_RX6_15 (wO cTp) rfl ?_
    refine j_alen (v := 161) C dX6_put_15 (wA cA7) gty_0 rfl ?_
    refine j_icmp_ge (tgt := 83) C dX6_put_16 (by decide) (fun c_2 => ?_) (fun c_2 => ?_)
    · skip
      exact absurd c_2 (by rw [hk]; exact nI_ge hk2 (by decide))
    · skip
      refine j_aload_n C dX6_put_19 rfl rfl ?_
      refine j_get C dX6_put_20 jf_RX6_28 (wO cTp) rfl ?_
      refine j_aload_n C dX6_put_23 rfl rfl ?_
      refine j_get C dX6_put_24 jf_RX6_18 (wO cTp) rfl ?_
      refine j_alen (v := 161) C dX6_put_27 (wA cA8) gty_0 rfl ?_
      refine j_icmp_ge (tgt := 83) C dX6_put_28 (by decide) (fun c_3 => ?_) (fun c_3 => ?_)
      · skip
        exact absurd c_3 (by rw [hk]; exact nI_ge hk2 (by decide))
      · skip
        refine j_aload_n C dX6_put_31 rfl rfl ?_
        refine j_get C dX6_put_32 jf_RX6_28 (wO cTp) rfl ?_
        refine j_aload_n C dX6_put_35 rfl rfl ?_
        refine j_get C dX6_put_36 jf_RX6_21 (wO cTp) rfl ?_
        refine j_alen (v := 161) C dX6_put_39 (wA cA9) gty_0 rfl ?_
        refine j_icmp_ge (tgt := 83) C dX6_put_40 (by decide) (fun c_4 => ?_) (fun c_4 => ?_)
        · skip
          exact absurd c_4 (by rw [hk]; exact nI_ge hk2 (by decide))
        · skip
          refine j_aload_n C dX6_put_43 rfl rfl ?_
          refine j_get C dX6_put_44 jf_RX6_15 (wO cTp) rfl ?_
          refine j_aload_n C dX6_put_47 rfl rfl ?_
          refine j_get C dX6_put_48 jf_RX6_28 (wO cTp) rfl ?_
          refine j_iload_n C dX6_put_51 rfl rfl ?_
          refine j_iast C (k) dX6_put_52 (wA cA7) (hk) (hk2) (by decide) (sA cA7 _ _) ?_
          refine j_aload_n C dX6_put_53 rfl rfl ?_
          refine j_get C dX6_put_54 jf_RX6_18 (wO cTp) rfl ?_
          refine j_aload_n C dX6_put_57 rfl rfl ?_
          refine j_get C dX6_put_58 jf_RX6_28 (wO cTp) rfl ?_
          refine j_iload_n C dX6_put_61 rfl rfl ?_
          refine j_iast C (k) dX6_put_62 (wA cA8) (by rw [uM_ne (k' := 5) (by decide)]; exact hk) (hk2) (by decide) (sA cA8 _ _) ?_
          refine j_aload_n C dX6_put_63 rfl rfl ?_
          refine j_get C dX6_put_64 jf_RX6_21 (wO cTp) rfl ?_
          refine j_aload_n C dX6_put_67 rfl rfl ?_
          refine j_get C dX6_put_68 jf_RX6_28 (wO cTp) rfl ?_
          refine j_iload_n C dX6_put_71 rfl rfl ?_
          refine j_iast C (k) dX6_put_72 (wA cA9) (by rw [uM_ne (k' := 5) (by decide), uM_ne (k' := 5) (by decide)]; exact hk) (hk2) (by decide) (sA cA9 _ _) ?_
          refine j_aload_n C dX6_put_73 rfl rfl ?_
          refine j_dup C dX6_put_74 rfl ?_
          refine j_get C dX6_put_75 jf_RX6_28 (wO cTp) rfl ?_
          refine j_iconst (v := 1) C dX6_put_78 rfl ?_
          refine j_iadd C dX6_put_79 ?_
          refine j_put C dX6_put_80 jp_RX6_28 (wO cTp) (Nat.le_of_ble_eq_true rfl) rfl rfl (sO cTp 5 _ rfl) ?_
          refine hret _ _ _ dX6_put_83 ?_
          have e : uM (uM (uM M 7 k t) 8 k s) 9 k v 5 5 + 1 = nI (k + 1) := by rw [uM_ne (k' := 5) (by decide), uM_ne (k' := 5) (by decide), uM_ne (k' := 5) (by decide), hk, nI_1]
          exact congrArg (uM (uM (uM (uM M 7 k t) 8 k s) 9 k v) 5 5) e
theorem slS_eq {f : Nat → Int32} {s e : Nat} {l : List Int32} (h1 : l.length = e - s) (h2 : ∀ k, k < l.length → l.getD k 0 = f (s + k)) : slS f s e = l := by
  apply List.ext_getElem?
  intro k
  by_cases hk : k < l.length
  · have e1 : (slS f s e)[k]? = some (f (s + k)) := by simp [slS, show k < e - s by omega]
    rw [e1, ← h2 k hk]
    simp [hk]
  · rw [List.getElem?_eq_none (by rw [slS_len]; omega), List.getElem?_eq_none (by omega)]
theorem slS_len' {f : Nat → Int32} {s e : Nat} {l : List Int32} (h : slS f s e = l) : l.length = e - s := by rw [← h, slS_len]
theorem slS_at {f : Nat → Int32} {s e k : Nat} {l : List Int32} (h : slS f s e = l) (hk : k < l.length) : l.getD k 0 = f (s + k) := by
  have h1 := slS_len' h
  rw [← h]
  simp [slS, show k < e - s by omega]
set_option maxHeartbeats 4000000 in
set_option maxRecDepth 100000 in
theorem c_X6_spelled (l : Launch) (g : jG) {S : Type} (wd : S → va_W) (x : S) (w : Int32) (i : Nat) (hw : w = nI i) (h1 : 1 ≤ i) (h2 : i ≤ 12) : Cq l g yX6_spelled cX6_spelled 1 (.object "java/lang/String") 0 0 0 0 wd [.int w] x (fun r z => r = some ((gEv g).2.1 i) ∧ z = x) := by
  refine mk_q (by decide +kernel) (Or.inl ⟨_, rfl⟩) rfl (fun KK hKl hKg C hin hret => ?_)
  subst hKl; subst hKg
  refine j_lv (lv' := [(0, _)]) rfl ?_
  have e_i : w.toInt = i := by rw [hw]; exact nI_toInt (by omega)
  refine j_iload_n C dX6_spelled_0 rfl rfl ?_
  by_cases s_1 : w = 1
  · refine j_tableIn (off := 63) (tgt := 64) C dX6_spelled_1 (by rw [s_1]; decide) (by rw [s_1]; decide) (by rw [s_1]; rfl) (by decide) ?_
    refine j_ldcS C 1 (by decide) dX6_spelled_64 rfl rfl ?_
    refine hret _ _ (some _) _ dX6_spelled_66 ?_
    have hii : i = 1 := by have := congrArg Int32.toInt s_1; rw [e_i] at this; simp only [Int32.reduceToInt] at this; omega
    exact ⟨by rw [hii], rfl⟩
  by_cases s_2 : w = 2
  · refine j_tableIn (off := 66) (tgt := 67) C dX6_spelled_1 (by rw [s_2]; decide) (by rw [s_2]; decide) (by rw [s_2]; rfl) (by decide) ?_
    refine j_ldcS C 2 (by decide) dX6_spelled_67 rfl rfl ?_
    refine hret _ _ (some _) _ dX6_spelled_69 ?_
    have hii : i = 2 := by have := congrArg Int32.toInt s_2; rw [e_i] at this; simp only [Int32.reduceToInt] at this; omega
    exact ⟨by rw [hii], rfl⟩
  by_cases s_3 : w = 3
  · refine j_tableIn (off := 69) (tgt := 70) C dX6_spelled_1 (by rw [s_3]; decide) (by rw [s_3]; decide) (by rw [s_3]; rfl) (by decide) ?_
    refine j_ldcS C 3 (by decide) dX6_spelled_70 rfl rfl ?_
    refine hret _ _ (some _) _ dX6_spelled_72 ?_
    have hii : i = 3 := by have := congrArg Int32.toInt s_3; rw [e_i] at this; simp only [Int32.reduceToInt] at this; omega
    exact ⟨by rw [hii], rfl⟩
  by_cases s_4 : w = 4
  · refine j_tableIn (off := 72) (tgt := 73) C dX6_spelled_1 (by rw [s_4]; decide) (by rw [s_4]; decide) (by rw [s_4]; rfl) (by decide) ?_
    refine j_ldcS C 4 (by decide) dX6_spelled_73 rfl rfl ?_
    refine hret _ _ (some _) _ dX6_spelled_75 ?_
    have hii : i = 4 := by have := congrArg Int32.toInt s_4; rw [e_i] at this; simp only [Int32.reduceToInt] at this; omega
    exact ⟨by rw [hii], rfl⟩
  by_cases s_5 : w = 5
  · refine j_tableIn (off := 75) (tgt := 76) C dX6_spelled_1 (by rw [s_5]; decide) (by rw [s_5]; decide) (by rw [s_5]; rfl) (by decide) ?_
    refine j_ldcS C 5 (by decide) dX6_spelled_76 rfl rfl ?_
    refine hret _ _ (some _) _ dX6_spelled_78 ?_
    have hii : i = 5 := by have := congrArg Int32.toInt s_5; rw [e_i] at this; simp only [Int32.reduceToInt] at this; omega
    exact ⟨by rw [hii], rfl⟩
  by_cases s_6 : w = 6
  · refine j_tableIn (off := 78) (tgt := 79) C dX6_spelled_1 (by rw [s_6]; decide) (by rw [s_6]; decide) (by rw [s_6]; rfl) (by decide) ?_
    refine j_ldcS C 6 (by decide) dX6_spelled_79 rfl rfl ?_
    refine hret _ _ (some _) _ dX6_spelled_81 ?_
    have hii : i = 6 := by have := congrArg Int32.toInt s_6; rw [e_i] at this; simp only [Int32.reduceToInt] at this; omega
    exact ⟨by rw [hii], rfl⟩
  by_cases s_7 : w = 7
  · refine j_tableIn (off := 81) (tgt := 82) C dX6_spelled_1 (by rw [s_7]; decide) (by rw [s_7]; decide) (by rw [s_7]; rfl) (by decide) ?_
    refine j_ldcS C 7 (by decide) dX6_spelled_82 rfl rfl ?_
    refine hret _ _ (some _) _ dX6_spelled_84 ?_
    have hii : i = 7 := by have := congrArg Int32.toInt s_7; rw [e_i] at this; simp only [Int32.reduceToInt] at this; omega
    exact ⟨by rw [hii], rfl⟩
  by_cases s_8 : w = 8
  · refine j_tableIn (off := 84) (tgt := 85) C dX6_spelled_1 (by rw [s_8]; decide) (by rw [s_8]; decide) (by rw [s_8]; rfl) (by decide) ?_
    refine j_ldcS C 8 (by decide) dX6_spelled_85 rfl rfl ?_
    refine hret _ _ (some _) _ dX6_spelled_87 ?_
    have hii : i = 8 := by have := congrArg Int32.toInt s_8; rw [e_i] at this; simp only [Int32.reduceToInt] at this; omega
    exact ⟨by rw [hii], rfl⟩
  by_cases s_9 : w = 9
  · refine j_tableIn (off := 87) (tgt := 88) C dX6_spelled_1 (by rw [s_9]; decide) (by rw [s_9]; decide) (by rw [s_9]; rfl) (by decide) ?_
    refine j_ldcS C 9 (by decide) dX6_spelled_88 rfl rfl ?_
    refine hret _ _ (some _) _ dX6_spelled_90 ?_
    have hii : i = 9 := by have := congrArg Int32.toInt s_9; rw [e_i] at this; simp only [Int32.reduceToInt] at this; omega
    exact ⟨by rw [hii], rfl⟩
  by_cases s_10 : w = 10
  · refine j_tableIn (off := 90) (tgt := 91) C dX6_spelled_1 (by rw [s_10]; decide) (by rw [s_10]; decide) (by rw [s_10]; rfl) (by decide) ?_
    refine j_ldcS C 10 (by decide) dX6_spelled_91 rfl rfl ?_
    refine hret _ _ (some _) _ dX6_spelled_93 ?_
    have hii : i = 10 := by have := congrArg Int32.toInt s_10; rw [e_i] at this; simp only [Int32.reduceToInt] at this; omega
    exact ⟨by rw [hii], rfl⟩
  by_cases s_11 : w = 11
  · refine j_tableIn (off := 93) (tgt := 94) C dX6_spelled_1 (by rw [s_11]; decide) (by rw [s_11]; decide) (by rw [s_11]; rfl) (by decide) ?_
    refine j_ldcS C 11 (by decide) dX6_spelled_94 rfl rfl ?_
    refine hret _ _ (some _) _ dX6_spelled_96 ?_
    have hii : i = 11 := by have := congrArg Int32.toInt s_11; rw [e_i] at this; simp only [Int32.reduceToInt] at this; omega
    exact ⟨by rw [hii], rfl⟩
  by_cases s_12 : w = 12
  · refine j_tableIn (off := 96) (tgt := 97) C dX6_spelled_1 (by rw [s_12]; decide) (by rw [s_12]; decide) (by rw [s_12]; rfl) (by decide) ?_
    refine j_ldcS C 12 (by decide) dX6_spelled_97 rfl rfl ?_
    refine hret _ _ (some _) _ dX6_spelled_99 ?_
    have hii : i = 12 := by have := congrArg Int32.toInt s_12; rw [e_i] at this; simp only [Int32.reduceToInt] at this; omega
    exact ⟨by rw [hii], rfl⟩
  have hsw : w.toInt < 1 ∨ 12 < w.toInt := by
    have q1 : ¬ w.toInt = 1 := lv_neT s_1 rfl
    have q2 : ¬ w.toInt = 2 := lv_neT s_2 rfl
    have q3 : ¬ w.toInt = 3 := lv_neT s_3 rfl
    have q4 : ¬ w.toInt = 4 := lv_neT s_4 rfl
    have q5 : ¬ w.toInt = 5 := lv_neT s_5 rfl
    have q6 : ¬ w.toInt = 6 := lv_neT s_6 rfl
    have q7 : ¬ w.toInt = 7 := lv_neT s_7 rfl
    have q8 : ¬ w.toInt = 8 := lv_neT s_8 rfl
    have q9 : ¬ w.toInt = 9 := lv_neT s_9 rfl
    have q10 : ¬ w.toInt = 10 := lv_neT s_10 rfl
    have q11 : ¬ w.toInt = 11 := lv_neT s_11 rfl
    have q12 : ¬ w.toInt = 12 := lv_neT s_12 rfl
    omega
  refine j_tableOut (tgt := 100) C dX6_spelled_1 hsw (by decide) ?_
  refine j_ldcS C 13 (by decide) dX6_spelled_100 rfl rfl ?_
  refine hret _ _ (some _) _ dX6_spelled_102 ?_
  exact absurd hsw (by omega)
set_option maxHeartbeats 4000000 in
set_option maxRecDepth 100000 in
theorem c_X6_stands (l : Launch) (g : jG) (a : Nat → Nat) (M : (Nat → Nat → Int32)) (i : Nat) (hi : i < 14) (p : Int32) (q : Int32) (n : Nat) (hT : tpR M n) (s e : Nat) (hp : p = nI s) (hq : q = nI e) (he : e ≤ n) (hse : s ≤ e) : Ci l g yX6_stands cX6_stands 5 .boolean 4 85 0 0 (cW g a) [.ref (a 5), .ref ((gEv g).2.1 i), .int p, .int q] M (fun r z => ((r = 1 ∧ slS (M 6) s e = sByt.getD i []) ∨ (r = 0 ∧ ¬ slS (M 6) s e = sByt.getD i [])) ∧ z = M) := by
  refine mk_i (by decide +kernel) rfl (fun KK hKl hKg C hin hret => ?_)
  subst hKl; subst hKg
  refine j_lv (lv' := [(0, _), (1, _), (2, _), (3, _)]) rfl ?_
  subst hp; subst hq; have hT2 := hT.2
  have hl := sb_all i hi
  have hl1 := hl.1
  have hl2 := hl.2.1
  have e_l : (nI (sLen.getD i 0)).toInt = sLen.getD i 0 := nI_toInt (by omega)
  refine j_aload_n C dX6_stands_0 rfl rfl ?_
  refine j_callivR C (c_J0_length_8abf5 _ _ _ _ i hi ) dX6_stands_1 jm_RX6_68 (j_srec C hi) ⟨by decide, by decide, by decide, by decide⟩ rfl (Nat.le_of_ble_eq_true rfl) (fun r z hz => ?_)
  obtain ⟨hr, hz⟩ := hz; have hr := hr.symm; have hz := hz.symm; subst hr; subst hz
  refine j_iload_n C dX6_stands_4 rfl rfl ?_
  refine j_iload_n C dX6_stands_5 rfl rfl ?_
  refine j_isub C dX6_stands_6 ?_
  refine j_top (v' := .int (nI (e - s))) (vint (pk_sub hse)) ?_
  refine j_icmp_eq (tgt := 12) C dX6_stands_7 (by decide) (fun c_7 => ?_) (fun c_7 => ?_)
  · skip
    have hle : (sByt.getD i []).length = e - s := by rw [← hl1]; have := (nI_eq (by omega) (by omega)).mp c_7; omega
    refine j_iconst (v := 0) C dX6_stands_12 rfl ?_
    refine j_istore (lv' := [(4, _), (0, _), (1, _), (2, _), (3, _)]) C dX6_stands_13 (by decide) rfl ?_
    have L_15 : ∀ k : Nat, ∀ (k' : Nat), k' ≤ sLen.getD i 0 → sLen.getD i 0 < k' + k → (∀ j, j < k' → (sByt.getD i []).getD j 0 = M 6 (s + j)) → J KK (cW (kG KK) a) 0 0 M [(0, .ref (a 5)), (1, .ref ((gEv (kG KK)).2.1 i)), (2, .int (nI s)), (3, .int (nI e)), (4, .int (nI k'))] 15 [] := by
      intro k
      induction k with
      | zero => intro k' h1 hk hs; omega
      | succ k ih =>
        intro k' h1 hk hs
        have e_k : (nI k').toInt = k' := nI_toInt (by omega)
        refine j_iload C dX6_stands_15 rfl ?_
        refine j_aload_n C dX6_stands_17 rfl rfl ?_
        refine j_callivR C (c_J0_length_8abf5 _ _ _ _ i hi ) dX6_stands_18 jm_RX6_68 (j_srec C hi) ⟨by decide, by decide, by decide, by decide⟩ rfl (Nat.le_of_ble_eq_true rfl) (fun r z hz => ?_)
        obtain ⟨hr, hz⟩ := hz; have hr := hr.symm; have hz := hz.symm; subst hr; subst hz
        refine j_icmp_ge (tgt := 49) C dX6_stands_21 (by decide) (fun c_2 => ?_) (fun c_2 => ?_)
        · skip
          have hk9 : k' = sLen.getD i 0 := by simp only [Int32.lt_iff_toInt_lt, Int32.le_iff_toInt_le, ← Int32.toInt_inj, Int32.reduceToInt, e_l, e_k] at c_2; omega
          subst hk9
          refine j_iconst (v := 1) C dX6_stands_49 rfl ?_
          refine hret _ _ _ _ dX6_stands_50 rfl ?_
          exact ⟨Or.inl ⟨rfl, slS_eq hle (fun j hj => hs j (by omega))⟩, rfl⟩
        · skip
          have hk9 : k' < sLen.getD i 0 := by simp only [Int32.lt_iff_toInt_lt, Int32.le_iff_toInt_le, ← Int32.toInt_inj, Int32.reduceToInt, e_l, e_k] at c_2; omega
          refine j_aload_n C dX6_stands_24 rfl rfl ?_
          refine j_iload C dX6_stands_25 rfl ?_
          refine j_callivR C (c_J0_charAt_5068e _ _ _ _ i hi _ k' rfl hk9) dX6_stands_27 jm_RX6_74 (j_srec C hi) ⟨by decide, by decide, by decide, by decide⟩ rfl (Nat.le_of_ble_eq_true rfl) (fun r z hz => ?_)
          obtain ⟨hr, hz⟩ := hz; have hr := hr.symm; have hz := hz.symm; subst hr; subst hz
          refine j_aload_n C dX6_stands_30 rfl rfl ?_
          refine j_iload_n C dX6_stands_31 rfl rfl ?_
          refine j_iload C dX6_stands_32 rfl ?_
          refine j_iadd C dX6_stands_34 ?_
          refine j_calliv C (c_X6_byteAt _ _ _ _ _ n hT (s + k') (nI_add s k') (by omega)) dX6_stands_35 jm_RX6_42 ⟨_, _, _, _, wO cTp, rfl, rfl⟩ ⟨by decide, by decide, by decide, by decide⟩ rfl (Nat.le_of_ble_eq_true rfl) (fun r_35 z_35 hz_35 => ?_)
          obtain ⟨hr, hz⟩ := hz_35; have hz := hz.symm; subst hz; rw [btS, if_pos (show s + k' < n by omega)] at hr; have hr := hr.symm; subst hr
          refine j_icmp_eq (tgt := 43) C dX6_stands_38 (by decide) (fun c_38 => ?_) (fun c_38 => ?_)
          · skip
            refine j_iinc (lv' := [(4, _), (0, _), (1, _), (2, _), (3, _)]) (v := nI (k' + 1)) C dX6_stands_43 rfl (j_inc1 k') (by decide) rfl ?_
            refine j_goto (tgt := 15) C dX6_stands_46 (by decide) ?_
            refine j_lv (lv' := [(0, _), (1, _), (2, _), (3, _), (4, _)]) rfl ?_
            exact ih (k' + 1) (by omega) (by omega) (fun j hj => by
              by_cases h : j = k'
              · subst h; exact c_38
              · exact hs j (by omega))
          · skip
            refine j_iconst (v := 0) C dX6_stands_41 rfl ?_
            refine hret _ _ _ _ dX6_stands_42 rfl ?_
            exact ⟨Or.inr ⟨rfl, fun h => c_38 (slS_at h (by omega))⟩, rfl⟩
    refine j_lv (lv' := [(0, _), (1, _), (2, _), (3, _), (4, _)]) rfl ?_
    exact L_15 (sLen.getD i 0 + 1) 0 (by omega) (by omega) (fun j h => absurd h (by omega))
  · skip
    have hle : ¬ (sByt.getD i []).length = e - s := by rw [← hl1]; exact fun h => c_7 (congrArg nI h)
    refine j_iconst (v := 0) C dX6_stands_10 rfl ?_
    refine hret _ _ _ _ dX6_stands_11 rfl ?_
    exact ⟨Or.inr ⟨rfl, fun h => hle (slS_len' h)⟩, rfl⟩
set_option maxHeartbeats 4000000 in
set_option maxRecDepth 100000 in
theorem c_X6_wordOf (l : Launch) (g : jG) (a : Nat → Nat) (M : (Nat → Nat → Int32)) (p : Int32) (q : Int32) (n : Nat) (hT : tpR M n) (s e : Nat) (hp : p = nI s) (hq : q = nI e) (he : e ≤ n) (hse : s ≤ e) : Ci l g yX6_wordOf cX6_wordOf 4 .int 5 109 0 0 (cW g a) [.ref (a 5), .int p, .int q] M (fun r z => r = woS (M 6) s e ∧ z = M) := by
  refine mk_i (by decide +kernel) rfl (fun KK hKl hKg C hin hret => ?_)
  subst hKl; subst hKg
  refine j_lv (lv' := [(0, _), (1, _), (2, _)]) rfl ?_
  refine j_iconst (v := 1) C dX6_wordOf_0 rfl ?_
  refine j_istore_n (lv' := [(3, _), (0, _), (1, _), (2, _)]) C dX6_wordOf_1 rfl (by decide) rfl ?_
  have L_2 : ∀ k : Nat, ∀ (w : Nat), 1 ≤ w → w ≤ 13 → 13 < w + k → (woS (M 6) s e = woF (slS (M 6) s e) (13 - w) w) → J KK (cW (kG KK) a) 0 0 M [(0, .ref (a 5)), (1, .int p), (2, .int q), (3, .int (nI w))] 2 [] := by
    intro k
    induction k with
    | zero => intro w h0 h1 hk hs; omega
    | succ k ih =>
      intro w h0 h1 hk hs
      have e_w : (nI w).toInt = w := nI_toInt (by omega)
      refine j_iload_n C dX6_wordOf_2 rfl rfl ?_
      refine j_bipush (v := 12) C dX6_wordOf_3 rfl ?_
      refine j_icmp_gt (tgt := 29) C dX6_wordOf_5 (by decide) (fun c_1 => ?_) (fun c_1 => ?_)
      · skip
        have hw : 13 - w = 0 := by simp only [Int32.lt_iff_toInt_lt, Int32.le_iff_toInt_le, ← Int32.toInt_inj, Int32.reduceToInt, e_w] at c_1; omega
        refine j_bipush (v := 15) C dX6_wordOf_29 rfl ?_
        refine hret _ _ _ _ dX6_wordOf_31 rfl ?_
        exact ⟨by rw [hs, hw]; rfl, rfl⟩
      · skip
        have hw : w ≤ 12 := by simp only [Int32.lt_iff_toInt_lt, Int32.le_iff_toInt_le, ← Int32.toInt_inj, Int32.reduceToInt, e_w] at c_1; omega
        obtain ⟨m, hm⟩ : ∃ m, 13 - w = m + 1 := ⟨12 - w, by omega⟩
        refine j_aload_n C dX6_wordOf_8 rfl rfl ?_
        refine j_iload_n C dX6_wordOf_9 rfl rfl ?_
        refine j_callqs C (c_X6_spelled _ _ _ _ _ w rfl h0 hw) dX6_wordOf_10 jm_RX6_60 ⟨by decide, by decide, by decide, by decide⟩ rfl (Nat.le_of_ble_eq_true rfl) (fun r z hz => ?_)
        obtain ⟨hr, hz⟩ := hz; have hr := hr.symm; have hz := hz.symm; subst hr; subst hz
        refine j_top (v' := .ref ((gEv (kG KK)).2.1 w)) rfl ?_
        refine j_iload_n C dX6_wordOf_13 rfl rfl ?_
        refine j_iload_n C dX6_wordOf_14 rfl rfl ?_
        refine j_calliv C (c_X6_stands _ _ _ _ w (show w < 14 by omega) _ _ n hT s e hp hq he hse) dX6_wordOf_15 jm_RX6_64 ⟨_, _, _, _, wO cTp, rfl, rfl⟩ ⟨by decide, by decide, by decide, by decide⟩ rfl (Nat.le_of_ble_eq_true rfl) (fun r z hz => ?_)
        obtain ⟨hb, hz⟩ := hz; have hz := hz.symm; subst hz
        rcases hb with ⟨rfl, b_15⟩ | ⟨rfl, b_15⟩
        · skip
          refine j_if_eq (tgt := 23) C dX6_wordOf_18 (by decide) (fun c => absurd c (by decide)) (fun _ => ?_)
          refine j_iload_n C dX6_wordOf_21 rfl rfl ?_
          refine hret _ _ _ _ dX6_wordOf_22 rfl ?_
          exact ⟨by rw [hs, hm, woF, if_pos b_15], rfl⟩
        · skip
          refine j_if_eq (tgt := 23) C dX6_wordOf_18 (by decide) (fun _ => ?_) (fun c => absurd (by decide) c)
          refine j_iinc (lv' := [(3, _), (0, _), (1, _), (2, _)]) (v := nI (w + 1)) C dX6_wordOf_23 rfl (j_inc1 w) (by decide) rfl ?_
          refine j_goto (tgt := 2) C dX6_wordOf_26 (by decide) ?_
          refine j_lv (lv' := [(0, _), (1, _), (2, _), (3, _)]) rfl ?_
          exact ih (w + 1) (by omega) (by omega) (by omega) (by rw [hs, hm, show 13 - (w + 1) = m by omega, woF, if_neg b_15])
  refine j_lv (lv' := [(0, _), (1, _), (2, _), (3, _)]) rfl ?_
  exact L_2 14 1 (by omega) (by omega) (by omega) rfl
set_option maxHeartbeats 4000000 in
set_option maxRecDepth 100000 in
theorem c_X6_scanToken (l : Launch) (g : jG) (a : Nat → Nat) (M : (Nat → Nat → Int32)) (p : Int32) (n : Nat) (hT : tpR M n) (q k : Nat) (hp : p = nI q) (hq : q < n) (hk : M 5 5 = nI k) (hk2 : k < 161) : Ci l g yX6_scanToken cX6_scanToken 4 .int 6 132 0 0 (cW g a) [.ref (a 5), .int p] M (fun r z => r = nI (tkE (M 6) n q) ∧ z = uM (uM (uM (uM M 7 k (tkC (M 6) n q)) 8 k (nI q)) 9 k (tkN (M 6) n q)) 5 5 (nI (k + 1))) := by
  refine mk_i (by decide +kernel) rfl (fun KK hKl hKg C hin hret => ?_)
  subst hKl; subst hKg
  refine j_lv (lv' := [(0, _), (1, _)]) rfl ?_
  subst hp; have hT2 := hT.2
  have hgt := tkE_gt (b := M 6) hq
  refine j_aload_n C dX6_scanToken_0 rfl rfl ?_
  refine j_iload_n C dX6_scanToken_1 rfl rfl ?_
  refine j_calliv C (c_X6_byteAt _ _ _ _ _ n hT q rfl (by omega)) dX6_scanToken_2 jm_RX6_42 ⟨_, _, _, _, wO cTp, rfl, rfl⟩ ⟨by decide, by decide, by decide, by decide⟩ rfl (Nat.le_of_ble_eq_true rfl) (fun r_2 z_2 hz_2 => ?_)
  obtain ⟨hr, hz⟩ := hz_2; have hz := hz.symm; subst hz; rw [btS, if_pos hq] at hr; have hr := hr.symm; subst hr
  refine j_istore_n (lv' := [(2, _), (0, _), (1, _)]) C dX6_scanToken_5 rfl (by decide) rfl ?_
  refine j_iload_n C dX6_scanToken_6 rfl rfl ?_
  refine j_iconst (v := 1) C dX6_scanToken_7 rfl ?_
  refine j_iadd C dX6_scanToken_8 ?_
  refine j_istore_n (lv' := [(3, _), (2, _), (0, _), (1, _)]) C dX6_scanToken_9 rfl (by decide) rfl ?_
  refine j_iload_n C dX6_scanToken_10 rfl rfl ?_
  refine j_bipush (v := 97) C dX6_scanToken_11 rfl ?_
  refine j_icmp_lt (tgt := 47) C dX6_scanToken_13 (by decide) (fun c_13 => ?_) (fun c_13 => ?_)
  · skip
    have hL : ¬ isL (M 6 q) := fun h => absurd h.1 (by simp only [Int32.lt_iff_toInt_lt, Int32.le_iff_toInt_le, ← Int32.toInt_inj, Int32.reduceToInt] at c_13 ⊢; omega)
    refine j_iload_n C dX6_scanToken_47 rfl rfl ?_
    refine j_bipush (v := 48) C dX6_scanToken_48 rfl ?_
    refine j_icmp_lt (tgt := 97) C dX6_scanToken_50 (by decide) (fun c_50 => ?_) (fun c_50 => ?_)
    · skip
      have hD : ¬ isD (M 6 q) := fun h => absurd h.1 (by simp only [Int32.lt_iff_toInt_lt, Int32.le_iff_toInt_le, ← Int32.toInt_inj, Int32.reduceToInt] at c_50 ⊢; omega)
      refine j_aload_n C dX6_scanToken_97 rfl rfl ?_
      refine j_iload_n C dX6_scanToken_98 rfl rfl ?_
      refine j_callis C (c_X6_isSign _ _ _ _ _ ) dX6_scanToken_99 jm_RX6_56 ⟨by decide, by decide, by decide, by decide⟩ rfl (Nat.le_of_ble_eq_true rfl) (fun r z hz => ?_)
      obtain ⟨hb, hz⟩ := hz; have hz := hz.symm; subst hz
      rcases hb with ⟨rfl, b_99⟩ | ⟨rfl, b_99⟩
      · skip
        refine j_if_eq (tgt := 109) C dX6_scanToken_102 (by decide) (fun c => absurd c (by decide)) (fun _ => ?_)
        refine j_iload_n C dX6_scanToken_105 rfl rfl ?_
        refine j_goto (tgt := 111) C dX6_scanToken_106 (by decide) ?_
        refine j_iload_n C dX6_scanToken_111 rfl rfl ?_
        refine j_iconst (v := 0) C dX6_scanToken_112 rfl ?_
        refine j_callvv C (c_X6_put _ _ _ _ _ _ _ k hk hk2) dX6_scanToken_113 jm_RX6_38 ⟨_, _, _, _, wO cTp, rfl, rfl⟩ ⟨by decide, by decide, by decide, by decide⟩ rfl (Nat.le_of_ble_eq_true rfl) (fun z_113 hz_113 => ?_)
        have hz_113 := hz_113.symm; subst hz_113
        refine j_iload_n C dX6_scanToken_116 rfl rfl ?_
        refine hret _ _ _ _ dX6_scanToken_117 rfl ?_
        have e4 : (nI (tkE (M 6) n q - q)).toInt = tkE (M 6) n q - q := by rw [nI_toInt (by omega)]; omega
        first
          | (have h1 : tkC (M 6) n q = woS (M 6) q (tkE (M 6) n q) := if_pos hL
             have h2 : tkN (M 6) n q = 0 := if_neg (fun h => h.1 hL)
             rw [h1, h2]; exact ⟨rfl, rfl⟩)
          | (have h2 : tkN (M 6) n q = nuS (M 6) q (tkE (M 6) n q - q) := if_pos ⟨hL, hD⟩
             have h1 : tkC (M 6) n q = 13 := by
               unfold tkC; rw [if_neg hL, if_pos hD, if_pos (by simp only [Int32.lt_iff_toInt_lt, Int32.le_iff_toInt_le, ← Int32.toInt_inj, Int32.reduceToInt, e4] at c_74; omega)]
             rw [h1, h2]; exact ⟨rfl, rfl⟩)
          | (have h2 : tkN (M 6) n q = nuS (M 6) q (tkE (M 6) n q - q) := if_pos ⟨hL, hD⟩
             have h1 : tkC (M 6) n q = 15 := by
               unfold tkC; rw [if_neg hL, if_pos hD, if_neg (by simp only [Int32.lt_iff_toInt_lt, Int32.le_iff_toInt_le, ← Int32.toInt_inj, Int32.reduceToInt, e4] at c_74; omega)]
             rw [h1, h2]; exact ⟨rfl, rfl⟩)
          | (have h2 : tkN (M 6) n q = 0 := if_neg (fun h => hD h.2)
             have h3 : tkE (M 6) n q = q + 1 := (if_neg hL).trans (if_neg hD)
             have h1 : tkC (M 6) n q = M 6 q := by
               unfold tkC; rw [if_neg hL, if_neg hD, if_pos b_99]
             rw [h1, h2, h3]; exact ⟨nI_1 q, rfl⟩)
          | (have h2 : tkN (M 6) n q = 0 := if_neg (fun h => hD h.2)
             have h3 : tkE (M 6) n q = q + 1 := (if_neg hL).trans (if_neg hD)
             have h1 : tkC (M 6) n q = 15 := by
               unfold tkC; rw [if_neg hL, if_neg hD, if_neg b_99]
             rw [h1, h2, h3]; exact ⟨nI_1 q, rfl⟩)
      · skip
        refine j_if_eq (tgt := 109) C dX6_scanToken_102 (by decide) (fun _ => ?_) (fun c => absurd (by decide) c)
        refine j_bipush (v := 15) C dX6_scanToken_109 rfl ?_
        refine j_iload_n C dX6_scanToken_111 rfl rfl ?_
        refine j_iconst (v := 0) C dX6_scanToken_112 rfl ?_
        refine j_callvv C (c_X6_put _ _ _ _ _ _ _ k hk hk2) dX6_scanToken_113 jm_RX6_38 ⟨_, _, _, _, wO cTp, rfl, rfl⟩ ⟨by decide, by decide, by decide, by decide⟩ rfl (Nat.le_of_ble_eq_true rfl) (fun z_113 hz_113 => ?_)
        have hz_113 := hz_113.symm; subst hz_113
        refine j_iload_n C dX6_scanToken_116 rfl rfl ?_
        refine hret _ _ _ _ dX6_scanToken_117 rfl ?_
        have e4 : (nI (tkE (M 6) n q - q)).toInt = tkE (M 6) n q - q := by rw [nI_toInt (by omega)]; omega
        first
          | (have h1 : tkC (M 6) n q = woS (M 6) q (tkE (M 6) n q) := if_pos hL
             have h2 : tkN (M 6) n q = 0 := if_neg (fun h => h.1 hL)
             rw [h1, h2]; exact ⟨rfl, rfl⟩)
          | (have h2 : tkN (M 6) n q = nuS (M 6) q (tkE (M 6) n q - q) := if_pos ⟨hL, hD⟩
             have h1 : tkC (M 6) n q = 13 := by
               unfold tkC; rw [if_neg hL, if_pos hD, if_pos (by simp only [Int32.lt_iff_toInt_lt, Int32.le_iff_toInt_le, ← Int32.toInt_inj, Int32.reduceToInt, e4] at c_74; omega)]
             rw [h1, h2]; exact ⟨rfl, rfl⟩)
          | (have h2 : tkN (M 6) n q = nuS (M 6) q (tkE (M 6) n q - q) := if_pos ⟨hL, hD⟩
             have h1 : tkC (M 6) n q = 15 := by
               unfold tkC; rw [if_neg hL, if_pos hD, if_neg (by simp only [Int32.lt_iff_toInt_lt, Int32.le_iff_toInt_le, ← Int32.toInt_inj, Int32.reduceToInt, e4] at c_74; omega)]
             rw [h1, h2]; exact ⟨rfl, rfl⟩)
          | (have h2 : tkN (M 6) n q = 0 := if_neg (fun h => hD h.2)
             have h3 : tkE (M 6) n q = q + 1 := (if_neg hL).trans (if_neg hD)
             have h1 : tkC (M 6) n q = M 6 q := by
               unfold tkC; rw [if_neg hL, if_neg hD, if_pos b_99]
             rw [h1, h2, h3]; exact ⟨nI_1 q, rfl⟩)
          | (have h2 : tkN (M 6) n q = 0 := if_neg (fun h => hD h.2)
             have h3 : tkE (M 6) n q = q + 1 := (if_neg hL).trans (if_neg hD)
             have h1 : tkC (M 6) n q = 15 := by
               unfold tkC; rw [if_neg hL, if_neg hD, if_neg b_99]
             rw [h1, h2, h3]; exact ⟨nI_1 q, rfl⟩)
    · skip
      refine j_iload_n C dX6_scanToken_53 rfl rfl ?_
      refine j_bipush (v := 57) C dX6_scanToken_54 rfl ?_
      refine j_icmp_gt (tgt := 97) C dX6_scanToken_56 (by decide) (fun c_56 => ?_) (fun c_56 => ?_)
      · skip
        have hD : ¬ isD (M 6 q) := fun h => absurd h.2 (by simp only [Int32.lt_iff_toInt_lt, Int32.le_iff_toInt_le, ← Int32.toInt_inj, Int32.reduceToInt] at c_56 ⊢; omega)
        refine j_aload_n C dX6_scanToken_97 rfl rfl ?_
        refine j_iload_n C dX6_scanToken_98 rfl rfl ?_
        refine j_callis C (c_X6_isSign _ _ _ _ _ ) dX6_scanToken_99 jm_RX6_56 ⟨by decide, by decide, by decide, by decide⟩ rfl (Nat.le_of_ble_eq_true rfl) (fun r z hz => ?_)
        obtain ⟨hb, hz⟩ := hz; have hz := hz.symm; subst hz
        rcases hb with ⟨rfl, b_99⟩ | ⟨rfl, b_99⟩
        · skip
          refine j_if_eq (tgt := 109) C dX6_scanToken_102 (by decide) (fun c => absurd c (by decide)) (fun _ => ?_)
          refine j_iload_n C dX6_scanToken_105 rfl rfl ?_
          refine j_goto (tgt := 111) C dX6_scanToken_106 (by decide) ?_
          refine j_iload_n C dX6_scanToken_111 rfl rfl ?_
          refine j_iconst (v := 0) C dX6_scanToken_112 rfl ?_
          refine j_callvv C (c_X6_put _ _ _ _ _ _ _ k hk hk2) dX6_scanToken_113 jm_RX6_38 ⟨_, _, _, _, wO cTp, rfl, rfl⟩ ⟨by decide, by decide, by decide, by decide⟩ rfl (Nat.le_of_ble_eq_true rfl) (fun z_113 hz_113 => ?_)
          have hz_113 := hz_113.symm; subst hz_113
          refine j_iload_n C dX6_scanToken_116 rfl rfl ?_
          refine hret _ _ _ _ dX6_scanToken_117 rfl ?_
          have e4 : (nI (tkE (M 6) n q - q)).toInt = tkE (M 6) n q - q := by rw [nI_toInt (by omega)]; omega
          first
            | (have h1 : tkC (M 6) n q = woS (M 6) q (tkE (M 6) n q) := if_pos hL
               have h2 : tkN (M 6) n q = 0 := if_neg (fun h => h.1 hL)
               rw [h1, h2]; exact ⟨rfl, rfl⟩)
            | (have h2 : tkN (M 6) n q = nuS (M 6) q (tkE (M 6) n q - q) := if_pos ⟨hL, hD⟩
               have h1 : tkC (M 6) n q = 13 := by
                 unfold tkC; rw [if_neg hL, if_pos hD, if_pos (by simp only [Int32.lt_iff_toInt_lt, Int32.le_iff_toInt_le, ← Int32.toInt_inj, Int32.reduceToInt, e4] at c_74; omega)]
               rw [h1, h2]; exact ⟨rfl, rfl⟩)
            | (have h2 : tkN (M 6) n q = nuS (M 6) q (tkE (M 6) n q - q) := if_pos ⟨hL, hD⟩
               have h1 : tkC (M 6) n q = 15 := by
                 unfold tkC; rw [if_neg hL, if_pos hD, if_neg (by simp only [Int32.lt_iff_toInt_lt, Int32.le_iff_toInt_le, ← Int32.toInt_inj, Int32.reduceToInt, e4] at c_74; omega)]
               rw [h1, h2]; exact ⟨rfl, rfl⟩)
            | (have h2 : tkN (M 6) n q = 0 := if_neg (fun h => hD h.2)
               have h3 : tkE (M 6) n q = q + 1 := (if_neg hL).trans (if_neg hD)
               have h1 : tkC (M 6) n q = M 6 q := by
                 unfold tkC; rw [if_neg hL, if_neg hD, if_pos b_99]
               rw [h1, h2, h3]; exact ⟨nI_1 q, rfl⟩)
            | (have h2 : tkN (M 6) n q = 0 := if_neg (fun h => hD h.2)
               have h3 : tkE (M 6) n q = q + 1 := (if_neg hL).trans (if_neg hD)
               have h1 : tkC (M 6) n q = 15 := by
                 unfold tkC; rw [if_neg hL, if_neg hD, if_neg b_99]
               rw [h1, h2, h3]; exact ⟨nI_1 q, rfl⟩)
        · skip
          refine j_if_eq (tgt := 109) C dX6_scanToken_102 (by decide) (fun _ => ?_) (fun c => absurd (by decide) c)
          refine j_bipush (v := 15) C dX6_scanToken_109 rfl ?_
          refine j_iload_n C dX6_scanToken_111 rfl rfl ?_
          refine j_iconst (v := 0) C dX6_scanToken_112 rfl ?_
          refine j_callvv C (c_X6_put _ _ _ _ _ _ _ k hk hk2) dX6_scanToken_113 jm_RX6_38 ⟨_, _, _, _, wO cTp, rfl, rfl⟩ ⟨by decide, by decide, by decide, by decide⟩ rfl (Nat.le_of_ble_eq_true rfl) (fun z_113 hz_113 => ?_)
          have hz_113 := hz_113.symm; subst hz_113
          refine j_iload_n C dX6_scanToken_116 rfl rfl ?_
          refine hret _ _ _ _ dX6_scanToken_117 rfl ?_
          have e4 : (nI (tkE (M 6) n q - q)).toInt = tkE (M 6) n q - q := by rw [nI_toInt (by omega)]; omega
          first
            | (have h1 : tkC (M 6) n q = woS (M 6) q (tkE (M 6) n q) := if_pos hL
               have h2 : tkN (M 6) n q = 0 := if_neg (fun h => h.1 hL)
               rw [h1, h2]; exact ⟨rfl, rfl⟩)
            | (have h2 : tkN (M 6) n q = nuS (M 6) q (tkE (M 6) n q - q) := if_pos ⟨hL, hD⟩
               have h1 : tkC (M 6) n q = 13 := by
                 unfold tkC; rw [if_neg hL, if_pos hD, if_pos (by simp only [Int32.lt_iff_toInt_lt, Int32.le_iff_toInt_le, ← Int32.toInt_inj, Int32.reduceToInt, e4] at c_74; omega)]
               rw [h1, h2]; exact ⟨rfl, rfl⟩)
            | (have h2 : tkN (M 6) n q = nuS (M 6) q (tkE (M 6) n q - q) := if_pos ⟨hL, hD⟩
               have h1 : tkC (M 6) n q = 15 := by
                 unfold tkC; rw [if_neg hL, if_pos hD, if_neg (by simp only [Int32.lt_iff_toInt_lt, Int32.le_iff_toInt_le, ← Int32.toInt_inj, Int32.reduceToInt, e4] at c_74; omega)]
               rw [h1, h2]; exact ⟨rfl, rfl⟩)
            | (have h2 : tkN (M 6) n q = 0 := if_neg (fun h => hD h.2)
               have h3 : tkE (M 6) n q = q + 1 := (if_neg hL).trans (if_neg hD)
               have h1 : tkC (M 6) n q = M 6 q := by
                 unfold tkC; rw [if_neg hL, if_neg hD, if_pos b_99]
               rw [h1, h2, h3]; exact ⟨nI_1 q, rfl⟩)
            | (have h2 : tkN (M 6) n q = 0 := if_neg (fun h => hD h.2)
               have h3 : tkE (M 6) n q = q + 1 := (if_neg hL).trans (if_neg hD)
               have h1 : tkC (M 6) n q = 15 := by
                 unfold tkC; rw [if_neg hL, if_neg hD, if_neg b_99]
               rw [h1, h2, h3]; exact ⟨nI_1 q, rfl⟩)
      · skip
        have hD : isD (M 6 q) := by unfold isD; simp only [Int32.lt_iff_toInt_lt, Int32.le_iff_toInt_le, ← Int32.toInt_inj, Int32.reduceToInt] at c_50 c_56 ⊢; omega
        have hE : tkE (M 6) n q = enR (M 6) n 48 57 q := (if_neg hL).trans (if_pos hD)
        refine j_aload_n C dX6_scanToken_59 rfl rfl ?_
        refine j_iload_n C dX6_scanToken_60 rfl rfl ?_
        refine j_bipush (v := 48) C dX6_scanToken_61 rfl ?_
        refine j_bipush (v := 57) C dX6_scanToken_63 rfl ?_
        refine j_calliv C (c_X6_endOfRun _ _ _ _ _ _ _ n hT q rfl (by omega)) dX6_scanToken_65 jm_RX6_45 ⟨_, _, _, _, wO cTp, rfl, rfl⟩ ⟨by decide, by decide, by decide, by decide⟩ rfl (Nat.le_of_ble_eq_true rfl) (fun r_65 z_65 hz_65 => ?_)
        obtain ⟨hr, hz⟩ := hz_65; have hz := hz.symm; subst hz; rw [← hE] at hr; have hr := hr.symm; subst hr
        refine j_istore_n (lv' := [(3, _), (2, _), (0, _), (1, _)]) C dX6_scanToken_68 rfl (by decide) rfl ?_
        refine j_aload_n C dX6_scanToken_69 rfl rfl ?_
        refine j_iload_n C dX6_scanToken_70 rfl rfl ?_
        refine j_iload_n C dX6_scanToken_71 rfl rfl ?_
        refine j_isub C dX6_scanToken_72 ?_
        refine j_top (v' := .int (nI (tkE (M 6) n q - q))) (vint (pk_sub (by omega))) ?_
        refine j_iconst (v := 4) C dX6_scanToken_73 rfl ?_
        refine j_icmp_le (tgt := 82) C dX6_scanToken_74 (by decide) (fun c_74 => ?_) (fun c_74 => ?_)
        · skip
          refine j_bipush (v := 13) C dX6_scanToken_82 rfl ?_
          refine j_iload_n C dX6_scanToken_84 rfl rfl ?_
          refine j_aload_n C dX6_scanToken_85 rfl rfl ?_
          refine j_iload_n C dX6_scanToken_86 rfl rfl ?_
          refine j_iload_n C dX6_scanToken_87 rfl rfl ?_
          refine j_calliv C (c_X6_numberOf _ _ _ _ _ _ n hT q (tkE (M 6) n q) rfl rfl hgt.2 (by omega)) dX6_scanToken_88 jm_RX6_53 ⟨_, _, _, _, wO cTp, rfl, rfl⟩ ⟨by decide, by decide, by decide, by decide⟩ rfl (Nat.le_of_ble_eq_true rfl) (fun r z hz => ?_)
          obtain ⟨hr, hz⟩ := hz; have hr := hr.symm; have hz := hz.symm; subst hr; subst hz
          refine j_callvv C (c_X6_put _ _ _ _ _ _ _ k hk hk2) dX6_scanToken_91 jm_RX6_38 ⟨_, _, _, _, wO cTp, rfl, rfl⟩ ⟨by decide, by decide, by decide, by decide⟩ rfl (Nat.le_of_ble_eq_true rfl) (fun z_91 hz_91 => ?_)
          have hz_91 := hz_91.symm; subst hz_91
          refine j_goto (tgt := 116) C dX6_scanToken_94 (by decide) ?_
          refine j_iload_n C dX6_scanToken_116 rfl rfl ?_
          refine hret _ _ _ _ dX6_scanToken_117 rfl ?_
          have e4 : (nI (tkE (M 6) n q - q)).toInt = tkE (M 6) n q - q := by rw [nI_toInt (by omega)]; omega
          first
            | (have h1 : tkC (M 6) n q = woS (M 6) q (tkE (M 6) n q) := if_pos hL
               have h2 : tkN (M 6) n q = 0 := if_neg (fun h => h.1 hL)
               rw [h1, h2]; exact ⟨rfl, rfl⟩)
            | (have h2 : tkN (M 6) n q = nuS (M 6) q (tkE (M 6) n q - q) := if_pos ⟨hL, hD⟩
               have h1 : tkC (M 6) n q = 13 := by
                 unfold tkC; rw [if_neg hL, if_pos hD, if_pos (by simp only [Int32.lt_iff_toInt_lt, Int32.le_iff_toInt_le, ← Int32.toInt_inj, Int32.reduceToInt, e4] at c_74; omega)]
               rw [h1, h2]; exact ⟨rfl, rfl⟩)
            | (have h2 : tkN (M 6) n q = nuS (M 6) q (tkE (M 6) n q - q) := if_pos ⟨hL, hD⟩
               have h1 : tkC (M 6) n q = 15 := by
                 unfold tkC; rw [if_neg hL, if_pos hD, if_neg (by simp only [Int32.lt_iff_toInt_lt, Int32.le_iff_toInt_le, ← Int32.toInt_inj, Int32.reduceToInt, e4] at c_74; omega)]
               rw [h1, h2]; exact ⟨rfl, rfl⟩)
            | (have h2 : tkN (M 6) n q = 0 := if_neg (fun h => hD h.2)
               have h3 : tkE (M 6) n q = q + 1 := (if_neg hL).trans (if_neg hD)
               have h1 : tkC (M 6) n q = M 6 q := by
                 unfold tkC; rw [if_neg hL, if_neg hD, if_pos b_99]
               rw [h1, h2, h3]; exact ⟨nI_1 q, rfl⟩)
            | (have h2 : tkN (M 6) n q = 0 := if_neg (fun h => hD h.2)
               have h3 : tkE (M 6) n q = q + 1 := (if_neg hL).trans (if_neg hD)
               have h1 : tkC (M 6) n q = 15 := by
                 unfold tkC; rw [if_neg hL, if_neg hD, if_neg b_99]
               rw [h1, h2, h3]; exact ⟨nI_1 q, rfl⟩)
        · skip
          refine j_bipush (v := 15) C dX6_scanToken_77 rfl ?_
          refine j_goto (tgt := 84) C dX6_scanToken_79 (by decide) ?_
          refine j_iload_n C dX6_scanToken_84 rfl rfl ?_
          refine j_aload_n C dX6_scanToken_85 rfl rfl ?_
          refine j_iload_n C dX6_scanToken_86 rfl rfl ?_
          refine j_iload_n C dX6_scanToken_87 rfl rfl ?_
          refine j_calliv C (c_X6_numberOf _ _ _ _ _ _ n hT q (tkE (M 6) n q) rfl rfl hgt.2 (by omega)) dX6_scanToken_88 jm_RX6_53 ⟨_, _, _, _, wO cTp, rfl, rfl⟩ ⟨by decide, by decide, by decide, by decide⟩ rfl (Nat.le_of_ble_eq_true rfl) (fun r z hz => ?_)
          obtain ⟨hr, hz⟩ := hz; have hr := hr.symm; have hz := hz.symm; subst hr; subst hz
          refine j_callvv C (c_X6_put _ _ _ _ _ _ _ k hk hk2) dX6_scanToken_91 jm_RX6_38 ⟨_, _, _, _, wO cTp, rfl, rfl⟩ ⟨by decide, by decide, by decide, by decide⟩ rfl (Nat.le_of_ble_eq_true rfl) (fun z_91 hz_91 => ?_)
          have hz_91 := hz_91.symm; subst hz_91
          refine j_goto (tgt := 116) C dX6_scanToken_94 (by decide) ?_
          refine j_iload_n C dX6_scanToken_116 rfl rfl ?_
          refine hret _ _ _ _ dX6_scanToken_117 rfl ?_
          have e4 : (nI (tkE (M 6) n q - q)).toInt = tkE (M 6) n q - q := by rw [nI_toInt (by omega)]; omega
          first
            | (have h1 : tkC (M 6) n q = woS (M 6) q (tkE (M 6) n q) := if_pos hL
               have h2 : tkN (M 6) n q = 0 := if_neg (fun h => h.1 hL)
               rw [h1, h2]; exact ⟨rfl, rfl⟩)
            | (have h2 : tkN (M 6) n q = nuS (M 6) q (tkE (M 6) n q - q) := if_pos ⟨hL, hD⟩
               have h1 : tkC (M 6) n q = 13 := by
                 unfold tkC; rw [if_neg hL, if_pos hD, if_pos (by simp only [Int32.lt_iff_toInt_lt, Int32.le_iff_toInt_le, ← Int32.toInt_inj, Int32.reduceToInt, e4] at c_74; omega)]
               rw [h1, h2]; exact ⟨rfl, rfl⟩)
            | (have h2 : tkN (M 6) n q = nuS (M 6) q (tkE (M 6) n q - q) := if_pos ⟨hL, hD⟩
               have h1 : tkC (M 6) n q = 15 := by
                 unfold tkC; rw [if_neg hL, if_pos hD, if_neg (by simp only [Int32.lt_iff_toInt_lt, Int32.le_iff_toInt_le, ← Int32.toInt_inj, Int32.reduceToInt, e4] at c_74; omega)]
               rw [h1, h2]; exact ⟨rfl, rfl⟩)
            | (have h2 : tkN (M 6) n q = 0 := if_neg (fun h => hD h.2)
               have h3 : tkE (M 6) n q = q + 1 := (if_neg hL).trans (if_neg hD)
               have h1 : tkC (M 6) n q = M 6 q := by
                 unfold tkC; rw [if_neg hL, if_neg hD, if_pos b_99]
               rw [h1, h2, h3]; exact ⟨nI_1 q, rfl⟩)
            | (have h2 : tkN (M 6) n q = 0 := if_neg (fun h => hD h.2)
               have h3 : tkE (M 6) n q = q + 1 := (if_neg hL).trans (if_neg hD)
               have h1 : tkC (M 6) n q = 15 := by
                 unfold tkC; rw [if_neg hL, if_neg hD, if_neg b_99]
               rw [h1, h2, h3]; exact ⟨nI_1 q, rfl⟩)
  · skip
    refine j_iload_n C dX6_scanToken_16 rfl rfl ?_
    refine j_bipush (v := 122) C dX6_scanToken_17 rfl ?_
    refine j_icmp_gt (tgt := 47) C dX6_scanToken_19 (by decide) (fun c_19 => ?_) (fun c_19 => ?_)
    · skip
      have hL : ¬ isL (M 6 q) := fun h => absurd h.2 (by simp only [Int32.lt_iff_toInt_lt, Int32.le_iff_toInt_le, ← Int32.toInt_inj, Int32.reduceToInt] at c_19 ⊢; omega)
      refine j_iload_n C dX6_scanToken_47 rfl rfl ?_
      refine j_bipush (v := 48) C dX6_scanToken_48 rfl ?_
      refine j_icmp_lt (tgt := 97) C dX6_scanToken_50 (by decide) (fun c_50 => ?_) (fun c_50 => ?_)
      · skip
        have hD : ¬ isD (M 6 q) := fun h => absurd h.1 (by simp only [Int32.lt_iff_toInt_lt, Int32.le_iff_toInt_le, ← Int32.toInt_inj, Int32.reduceToInt] at c_50 ⊢; omega)
        refine j_aload_n C dX6_scanToken_97 rfl rfl ?_
        refine j_iload_n C dX6_scanToken_98 rfl rfl ?_
        refine j_callis C (c_X6_isSign _ _ _ _ _ ) dX6_scanToken_99 jm_RX6_56 ⟨by decide, by decide, by decide, by decide⟩ rfl (Nat.le_of_ble_eq_true rfl) (fun r z hz => ?_)
        obtain ⟨hb, hz⟩ := hz; have hz := hz.symm; subst hz
        rcases hb with ⟨rfl, b_99⟩ | ⟨rfl, b_99⟩
        · skip
          refine j_if_eq (tgt := 109) C dX6_scanToken_102 (by decide) (fun c => absurd c (by decide)) (fun _ => ?_)
          refine j_iload_n C dX6_scanToken_105 rfl rfl ?_
          refine j_goto (tgt := 111) C dX6_scanToken_106 (by decide) ?_
          refine j_iload_n C dX6_scanToken_111 rfl rfl ?_
          refine j_iconst (v := 0) C dX6_scanToken_112 rfl ?_
          refine j_callvv C (c_X6_put _ _ _ _ _ _ _ k hk hk2) dX6_scanToken_113 jm_RX6_38 ⟨_, _, _, _, wO cTp, rfl, rfl⟩ ⟨by decide, by decide, by decide, by decide⟩ rfl (Nat.le_of_ble_eq_true rfl) (fun z_113 hz_113 => ?_)
          have hz_113 := hz_113.symm; subst hz_113
          refine j_iload_n C dX6_scanToken_116 rfl rfl ?_
          refine hret _ _ _ _ dX6_scanToken_117 rfl ?_
          have e4 : (nI (tkE (M 6) n q - q)).toInt = tkE (M 6) n q - q := by rw [nI_toInt (by omega)]; omega
          first
            | (have h1 : tkC (M 6) n q = woS (M 6) q (tkE (M 6) n q) := if_pos hL
               have h2 : tkN (M 6) n q = 0 := if_neg (fun h => h.1 hL)
               rw [h1, h2]; exact ⟨rfl, rfl⟩)
            | (have h2 : tkN (M 6) n q = nuS (M 6) q (tkE (M 6) n q - q) := if_pos ⟨hL, hD⟩
               have h1 : tkC (M 6) n q = 13 := by
                 unfold tkC; rw [if_neg hL, if_pos hD, if_pos (by simp only [Int32.lt_iff_toInt_lt, Int32.le_iff_toInt_le, ← Int32.toInt_inj, Int32.reduceToInt, e4] at c_74; omega)]
               rw [h1, h2]; exact ⟨rfl, rfl⟩)
            | (have h2 : tkN (M 6) n q = nuS (M 6) q (tkE (M 6) n q - q) := if_pos ⟨hL, hD⟩
               have h1 : tkC (M 6) n q = 15 := by
                 unfold tkC; rw [if_neg hL, if_pos hD, if_neg (by simp only [Int32.lt_iff_toInt_lt, Int32.le_iff_toInt_le, ← Int32.toInt_inj, Int32.reduceToInt, e4] at c_74; omega)]
               rw [h1, h2]; exact ⟨rfl, rfl⟩)
            | (have h2 : tkN (M 6) n q = 0 := if_neg (fun h => hD h.2)
               have h3 : tkE (M 6) n q = q + 1 := (if_neg hL).trans (if_neg hD)
               have h1 : tkC (M 6) n q = M 6 q := by
                 unfold tkC; rw [if_neg hL, if_neg hD, if_pos b_99]
               rw [h1, h2, h3]; exact ⟨nI_1 q, rfl⟩)
            | (have h2 : tkN (M 6) n q = 0 := if_neg (fun h => hD h.2)
               have h3 : tkE (M 6) n q = q + 1 := (if_neg hL).trans (if_neg hD)
               have h1 : tkC (M 6) n q = 15 := by
                 unfold tkC; rw [if_neg hL, if_neg hD, if_neg b_99]
               rw [h1, h2, h3]; exact ⟨nI_1 q, rfl⟩)
        · skip
          refine j_if_eq (tgt := 109) C dX6_scanToken_102 (by decide) (fun _ => ?_) (fun c => absurd (by decide) c)
          refine j_bipush (v := 15) C dX6_scanToken_109 rfl ?_
          refine j_iload_n C dX6_scanToken_111 rfl rfl ?_
          refine j_iconst (v := 0) C dX6_scanToken_112 rfl ?_
          refine j_callvv C (c_X6_put _ _ _ _ _ _ _ k hk hk2) dX6_scanToken_113 jm_RX6_38 ⟨_, _, _, _, wO cTp, rfl, rfl⟩ ⟨by decide, by decide, by decide, by decide⟩ rfl (Nat.le_of_ble_eq_true rfl) (fun z_113 hz_113 => ?_)
          have hz_113 := hz_113.symm; subst hz_113
          refine j_iload_n C dX6_scanToken_116 rfl rfl ?_
          refine hret _ _ _ _ dX6_scanToken_117 rfl ?_
          have e4 : (nI (tkE (M 6) n q - q)).toInt = tkE (M 6) n q - q := by rw [nI_toInt (by omega)]; omega
          first
            | (have h1 : tkC (M 6) n q = woS (M 6) q (tkE (M 6) n q) := if_pos hL
               have h2 : tkN (M 6) n q = 0 := if_neg (fun h => h.1 hL)
               rw [h1, h2]; exact ⟨rfl, rfl⟩)
            | (have h2 : tkN (M 6) n q = nuS (M 6) q (tkE (M 6) n q - q) := if_pos ⟨hL, hD⟩
               have h1 : tkC (M 6) n q = 13 := by
                 unfold tkC; rw [if_neg hL, if_pos hD, if_pos (by simp only [Int32.lt_iff_toInt_lt, Int32.le_iff_toInt_le, ← Int32.toInt_inj, Int32.reduceToInt, e4] at c_74; omega)]
               rw [h1, h2]; exact ⟨rfl, rfl⟩)
            | (have h2 : tkN (M 6) n q = nuS (M 6) q (tkE (M 6) n q - q) := if_pos ⟨hL, hD⟩
               have h1 : tkC (M 6) n q = 15 := by
                 unfold tkC; rw [if_neg hL, if_pos hD, if_neg (by simp only [Int32.lt_iff_toInt_lt, Int32.le_iff_toInt_le, ← Int32.toInt_inj, Int32.reduceToInt, e4] at c_74; omega)]
               rw [h1, h2]; exact ⟨rfl, rfl⟩)
            | (have h2 : tkN (M 6) n q = 0 := if_neg (fun h => hD h.2)
               have h3 : tkE (M 6) n q = q + 1 := (if_neg hL).trans (if_neg hD)
               have h1 : tkC (M 6) n q = M 6 q := by
                 unfold tkC; rw [if_neg hL, if_neg hD, if_pos b_99]
               rw [h1, h2, h3]; exact ⟨nI_1 q, rfl⟩)
            | (have h2 : tkN (M 6) n q = 0 := if_neg (fun h => hD h.2)
               have h3 : tkE (M 6) n q = q + 1 := (if_neg hL).trans (if_neg hD)
               have h1 : tkC (M 6) n q = 15 := by
                 unfold tkC; rw [if_neg hL, if_neg hD, if_neg b_99]
               rw [h1, h2, h3]; exact ⟨nI_1 q, rfl⟩)
      · skip
        refine j_iload_n C dX6_scanToken_53 rfl rfl ?_
        refine j_bipush (v := 57) C dX6_scanToken_54 rfl ?_
        refine j_icmp_gt (tgt := 97) C dX6_scanToken_56 (by decide) (fun c_56 => ?_) (fun c_56 => ?_)
        · skip
          have hD : ¬ isD (M 6 q) := fun h => absurd h.2 (by simp only [Int32.lt_iff_toInt_lt, Int32.le_iff_toInt_le, ← Int32.toInt_inj, Int32.reduceToInt] at c_56 ⊢; omega)
          refine j_aload_n C dX6_scanToken_97 rfl rfl ?_
          refine j_iload_n C dX6_scanToken_98 rfl rfl ?_
          refine j_callis C (c_X6_isSign _ _ _ _ _ ) dX6_scanToken_99 jm_RX6_56 ⟨by decide, by decide, by decide, by decide⟩ rfl (Nat.le_of_ble_eq_true rfl) (fun r z hz => ?_)
          obtain ⟨hb, hz⟩ := hz; have hz := hz.symm; subst hz
          rcases hb with ⟨rfl, b_99⟩ | ⟨rfl, b_99⟩
          · skip
            refine j_if_eq (tgt := 109) C dX6_scanToken_102 (by decide) (fun c => absurd c (by decide)) (fun _ => ?_)
            refine j_iload_n C dX6_scanToken_105 rfl rfl ?_
            refine j_goto (tgt := 111) C dX6_scanToken_106 (by decide) ?_
            refine j_iload_n C dX6_scanToken_111 rfl rfl ?_
            refine j_iconst (v := 0) C dX6_scanToken_112 rfl ?_
            refine j_callvv C (c_X6_put _ _ _ _ _ _ _ k hk hk2) dX6_scanToken_113 jm_RX6_38 ⟨_, _, _, _, wO cTp, rfl, rfl⟩ ⟨by decide, by decide, by decide, by decide⟩ rfl (Nat.le_of_ble_eq_true rfl) (fun z_113 hz_113 => ?_)
            have hz_113 := hz_113.symm; subst hz_113
            refine j_iload_n C dX6_scanToken_116 rfl rfl ?_
            refine hret _ _ _ _ dX6_scanToken_117 rfl ?_
            have e4 : (nI (tkE (M 6) n q - q)).toInt = tkE (M 6) n q - q := by rw [nI_toInt (by omega)]; omega
            first
              | (have h1 : tkC (M 6) n q = woS (M 6) q (tkE (M 6) n q) := if_pos hL
                 have h2 : tkN (M 6) n q = 0 := if_neg (fun h => h.1 hL)
                 rw [h1, h2]; exact ⟨rfl, rfl⟩)
              | (have h2 : tkN (M 6) n q = nuS (M 6) q (tkE (M 6) n q - q) := if_pos ⟨hL, hD⟩
                 have h1 : tkC (M 6) n q = 13 := by
                   unfold tkC; rw [if_neg hL, if_pos hD, if_pos (by simp only [Int32.lt_iff_toInt_lt, Int32.le_iff_toInt_le, ← Int32.toInt_inj, Int32.reduceToInt, e4] at c_74; omega)]
                 rw [h1, h2]; exact ⟨rfl, rfl⟩)
              | (have h2 : tkN (M 6) n q = nuS (M 6) q (tkE (M 6) n q - q) := if_pos ⟨hL, hD⟩
                 have h1 : tkC (M 6) n q = 15 := by
                   unfold tkC; rw [if_neg hL, if_pos hD, if_neg (by simp only [Int32.lt_iff_toInt_lt, Int32.le_iff_toInt_le, ← Int32.toInt_inj, Int32.reduceToInt, e4] at c_74; omega)]
                 rw [h1, h2]; exact ⟨rfl, rfl⟩)
              | (have h2 : tkN (M 6) n q = 0 := if_neg (fun h => hD h.2)
                 have h3 : tkE (M 6) n q = q + 1 := (if_neg hL).trans (if_neg hD)
                 have h1 : tkC (M 6) n q = M 6 q := by
                   unfold tkC; rw [if_neg hL, if_neg hD, if_pos b_99]
                 rw [h1, h2, h3]; exact ⟨nI_1 q, rfl⟩)
              | (have h2 : tkN (M 6) n q = 0 := if_neg (fun h => hD h.2)
                 have h3 : tkE (M 6) n q = q + 1 := (if_neg hL).trans (if_neg hD)
                 have h1 : tkC (M 6) n q = 15 := by
                   unfold tkC; rw [if_neg hL, if_neg hD, if_neg b_99]
                 rw [h1, h2, h3]; exact ⟨nI_1 q, rfl⟩)
          · skip
            refine j_if_eq (tgt := 109) C dX6_scanToken_102 (by decide) (fun _ => ?_) (fun c => absurd (by decide) c)
            refine j_bipush (v := 15) C dX6_scanToken_109 rfl ?_
            refine j_iload_n C dX6_scanToken_111 rfl rfl ?_
            refine j_iconst (v := 0) C dX6_scanToken_112 rfl ?_
            refine j_callvv C (c_X6_put _ _ _ _ _ _ _ k hk hk2) dX6_scanToken_113 jm_RX6_38 ⟨_, _, _, _, wO cTp, rfl, rfl⟩ ⟨by decide, by decide, by decide, by decide⟩ rfl (Nat.le_of_ble_eq_true rfl) (fun z_113 hz_113 => ?_)
            have hz_113 := hz_113.symm; subst hz_113
            refine j_iload_n C dX6_scanToken_116 rfl rfl ?_
            refine hret _ _ _ _ dX6_scanToken_117 rfl ?_
            have e4 : (nI (tkE (M 6) n q - q)).toInt = tkE (M 6) n q - q := by rw [nI_toInt (by omega)]; omega
            first
              | (have h1 : tkC (M 6) n q = woS (M 6) q (tkE (M 6) n q) := if_pos hL
                 have h2 : tkN (M 6) n q = 0 := if_neg (fun h => h.1 hL)
                 rw [h1, h2]; exact ⟨rfl, rfl⟩)
              | (have h2 : tkN (M 6) n q = nuS (M 6) q (tkE (M 6) n q - q) := if_pos ⟨hL, hD⟩
                 have h1 : tkC (M 6) n q = 13 := by
                   unfold tkC; rw [if_neg hL, if_pos hD, if_pos (by simp only [Int32.lt_iff_toInt_lt, Int32.le_iff_toInt_le, ← Int32.toInt_inj, Int32.reduceToInt, e4] at c_74; omega)]
                 rw [h1, h2]; exact ⟨rfl, rfl⟩)
              | (have h2 : tkN (M 6) n q = nuS (M 6) q (tkE (M 6) n q - q) := if_pos ⟨hL, hD⟩
                 have h1 : tkC (M 6) n q = 15 := by
                   unfold tkC; rw [if_neg hL, if_pos hD, if_neg (by simp only [Int32.lt_iff_toInt_lt, Int32.le_iff_toInt_le, ← Int32.toInt_inj, Int32.reduceToInt, e4] at c_74; omega)]
                 rw [h1, h2]; exact ⟨rfl, rfl⟩)
              | (have h2 : tkN (M 6) n q = 0 := if_neg (fun h => hD h.2)
                 have h3 : tkE (M 6) n q = q + 1 := (if_neg hL).trans (if_neg hD)
                 have h1 : tkC (M 6) n q = M 6 q := by
                   unfold tkC; rw [if_neg hL, if_neg hD, if_pos b_99]
                 rw [h1, h2, h3]; exact ⟨nI_1 q, rfl⟩)
              | (have h2 : tkN (M 6) n q = 0 := if_neg (fun h => hD h.2)
                 have h3 : tkE (M 6) n q = q + 1 := (if_neg hL).trans (if_neg hD)
                 have h1 : tkC (M 6) n q = 15 := by
                   unfold tkC; rw [if_neg hL, if_neg hD, if_neg b_99]
                 rw [h1, h2, h3]; exact ⟨nI_1 q, rfl⟩)
        · skip
          have hD : isD (M 6 q) := by unfold isD; simp only [Int32.lt_iff_toInt_lt, Int32.le_iff_toInt_le, ← Int32.toInt_inj, Int32.reduceToInt] at c_50 c_56 ⊢; omega
          have hE : tkE (M 6) n q = enR (M 6) n 48 57 q := (if_neg hL).trans (if_pos hD)
          refine j_aload_n C dX6_scanToken_59 rfl rfl ?_
          refine j_iload_n C dX6_scanToken_60 rfl rfl ?_
          refine j_bipush (v := 48) C dX6_scanToken_61 rfl ?_
          refine j_bipush (v := 57) C dX6_scanToken_63 rfl ?_
          refine j_calliv C (c_X6_endOfRun _ _ _ _ _ _ _ n hT q rfl (by omega)) dX6_scanToken_65 jm_RX6_45 ⟨_, _, _, _, wO cTp, rfl, rfl⟩ ⟨by decide, by decide, by decide, by decide⟩ rfl (Nat.le_of_ble_eq_true rfl) (fun r_65 z_65 hz_65 => ?_)
          obtain ⟨hr, hz⟩ := hz_65; have hz := hz.symm; subst hz; rw [← hE] at hr; have hr := hr.symm; subst hr
          refine j_istore_n (lv' := [(3, _), (2, _), (0, _), (1, _)]) C dX6_scanToken_68 rfl (by decide) rfl ?_
          refine j_aload_n C dX6_scanToken_69 rfl rfl ?_
          refine j_iload_n C dX6_scanToken_70 rfl rfl ?_
          refine j_iload_n C dX6_scanToken_71 rfl rfl ?_
          refine j_isub C dX6_scanToken_72 ?_
          refine j_top (v' := .int (nI (tkE (M 6) n q - q))) (vint (pk_sub (by omega))) ?_
          refine j_iconst (v := 4) C dX6_scanToken_73 rfl ?_
          refine j_icmp_le (tgt := 82) C dX6_scanToken_74 (by decide) (fun c_74 => ?_) (fun c_74 => ?_)
          · skip
            refine j_bipush (v := 13) C dX6_scanToken_82 rfl ?_
            refine j_iload_n C dX6_scanToken_84 rfl rfl ?_
            refine j_aload_n C dX6_scanToken_85 rfl rfl ?_
            refine j_iload_n C dX6_scanToken_86 rfl rfl ?_
            refine j_iload_n C dX6_scanToken_87 rfl rfl ?_
            refine j_calliv C (c_X6_numberOf _ _ _ _ _ _ n hT q (tkE (M 6) n q) rfl rfl hgt.2 (by omega)) dX6_scanToken_88 jm_RX6_53 ⟨_, _, _, _, wO cTp, rfl, rfl⟩ ⟨by decide, by decide, by decide, by decide⟩ rfl (Nat.le_of_ble_eq_true rfl) (fun r z hz => ?_)
            obtain ⟨hr, hz⟩ := hz; have hr := hr.symm; have hz := hz.symm; subst hr; subst hz
            refine j_callvv C (c_X6_put _ _ _ _ _ _ _ k hk hk2) dX6_scanToken_91 jm_RX6_38 ⟨_, _, _, _, wO cTp, rfl, rfl⟩ ⟨by decide, by decide, by decide, by decide⟩ rfl (Nat.le_of_ble_eq_true rfl) (fun z_91 hz_91 => ?_)
            have hz_91 := hz_91.symm; subst hz_91
            refine j_goto (tgt := 116) C dX6_scanToken_94 (by decide) ?_
            refine j_iload_n C dX6_scanToken_116 rfl rfl ?_
            refine hret _ _ _ _ dX6_scanToken_117 rfl ?_
            have e4 : (nI (tkE (M 6) n q - q)).toInt = tkE (M 6) n q - q := by rw [nI_toInt (by omega)]; omega
            first
              | (have h1 : tkC (M 6) n q = woS (M 6) q (tkE (M 6) n q) := if_pos hL
                 have h2 : tkN (M 6) n q = 0 := if_neg (fun h => h.1 hL)
                 rw [h1, h2]; exact ⟨rfl, rfl⟩)
              | (have h2 : tkN (M 6) n q = nuS (M 6) q (tkE (M 6) n q - q) := if_pos ⟨hL, hD⟩
                 have h1 : tkC (M 6) n q = 13 := by
                   unfold tkC; rw [if_neg hL, if_pos hD, if_pos (by simp only [Int32.lt_iff_toInt_lt, Int32.le_iff_toInt_le, ← Int32.toInt_inj, Int32.reduceToInt, e4] at c_74; omega)]
                 rw [h1, h2]; exact ⟨rfl, rfl⟩)
              | (have h2 : tkN (M 6) n q = nuS (M 6) q (tkE (M 6) n q - q) := if_pos ⟨hL, hD⟩
                 have h1 : tkC (M 6) n q = 15 := by
                   unfold tkC; rw [if_neg hL, if_pos hD, if_neg (by simp only [Int32.lt_iff_toInt_lt, Int32.le_iff_toInt_le, ← Int32.toInt_inj, Int32.reduceToInt, e4] at c_74; omega)]
                 rw [h1, h2]; exact ⟨rfl, rfl⟩)
              | (have h2 : tkN (M 6) n q = 0 := if_neg (fun h => hD h.2)
                 have h3 : tkE (M 6) n q = q + 1 := (if_neg hL).trans (if_neg hD)
                 have h1 : tkC (M 6) n q = M 6 q := by
                   unfold tkC; rw [if_neg hL, if_neg hD, if_pos b_99]
                 rw [h1, h2, h3]; exact ⟨nI_1 q, rfl⟩)
              | (have h2 : tkN (M 6) n q = 0 := if_neg (fun h => hD h.2)
                 have h3 : tkE (M 6) n q = q + 1 := (if_neg hL).trans (if_neg hD)
                 have h1 : tkC (M 6) n q = 15 := by
                   unfold tkC; rw [if_neg hL, if_neg hD, if_neg b_99]
                 rw [h1, h2, h3]; exact ⟨nI_1 q, rfl⟩)
          · skip
            refine j_bipush (v := 15) C dX6_scanToken_77 rfl ?_
            refine j_goto (tgt := 84) C dX6_scanToken_79 (by decide) ?_
            refine j_iload_n C dX6_scanToken_84 rfl rfl ?_
            refine j_aload_n C dX6_scanToken_85 rfl rfl ?_
            refine j_iload_n C dX6_scanToken_86 rfl rfl ?_
            refine j_iload_n C dX6_scanToken_87 rfl rfl ?_
            refine j_calliv C (c_X6_numberOf _ _ _ _ _ _ n hT q (tkE (M 6) n q) rfl rfl hgt.2 (by omega)) dX6_scanToken_88 jm_RX6_53 ⟨_, _, _, _, wO cTp, rfl, rfl⟩ ⟨by decide, by decide, by decide, by decide⟩ rfl (Nat.le_of_ble_eq_true rfl) (fun r z hz => ?_)
            obtain ⟨hr, hz⟩ := hz; have hr := hr.symm; have hz := hz.symm; subst hr; subst hz
            refine j_callvv C (c_X6_put _ _ _ _ _ _ _ k hk hk2) dX6_scanToken_91 jm_RX6_38 ⟨_, _, _, _, wO cTp, rfl, rfl⟩ ⟨by decide, by decide, by decide, by decide⟩ rfl (Nat.le_of_ble_eq_true rfl) (fun z_91 hz_91 => ?_)
            have hz_91 := hz_91.symm; subst hz_91
            refine j_goto (tgt := 116) C dX6_scanToken_94 (by decide) ?_
            refine j_iload_n C dX6_scanToken_116 rfl rfl ?_
            refine hret _ _ _ _ dX6_scanToken_117 rfl ?_
            have e4 : (nI (tkE (M 6) n q - q)).toInt = tkE (M 6) n q - q := by rw [nI_toInt (by omega)]; omega
            first
              | (have h1 : tkC (M 6) n q = woS (M 6) q (tkE (M 6) n q) := if_pos hL
                 have h2 : tkN (M 6) n q = 0 := if_neg (fun h => h.1 hL)
                 rw [h1, h2]; exact ⟨rfl, rfl⟩)
              | (have h2 : tkN (M 6) n q = nuS (M 6) q (tkE (M 6) n q - q) := if_pos ⟨hL, hD⟩
                 have h1 : tkC (M 6) n q = 13 := by
                   unfold tkC; rw [if_neg hL, if_pos hD, if_pos (by simp only [Int32.lt_iff_toInt_lt, Int32.le_iff_toInt_le, ← Int32.toInt_inj, Int32.reduceToInt, e4] at c_74; omega)]
                 rw [h1, h2]; exact ⟨rfl, rfl⟩)
              | (have h2 : tkN (M 6) n q = nuS (M 6) q (tkE (M 6) n q - q) := if_pos ⟨hL, hD⟩
                 have h1 : tkC (M 6) n q = 15 := by
                   unfold tkC; rw [if_neg hL, if_pos hD, if_neg (by simp only [Int32.lt_iff_toInt_lt, Int32.le_iff_toInt_le, ← Int32.toInt_inj, Int32.reduceToInt, e4] at c_74; omega)]
                 rw [h1, h2]; exact ⟨rfl, rfl⟩)
              | (have h2 : tkN (M 6) n q = 0 := if_neg (fun h => hD h.2)
                 have h3 : tkE (M 6) n q = q + 1 := (if_neg hL).trans (if_neg hD)
                 have h1 : tkC (M 6) n q = M 6 q := by
                   unfold tkC; rw [if_neg hL, if_neg hD, if_pos b_99]
                 rw [h1, h2, h3]; exact ⟨nI_1 q, rfl⟩)
              | (have h2 : tkN (M 6) n q = 0 := if_neg (fun h => hD h.2)
                 have h3 : tkE (M 6) n q = q + 1 := (if_neg hL).trans (if_neg hD)
                 have h1 : tkC (M 6) n q = 15 := by
                   unfold tkC; rw [if_neg hL, if_neg hD, if_neg b_99]
                 rw [h1, h2, h3]; exact ⟨nI_1 q, rfl⟩)
    · skip
      have hL : isL (M 6 q) := by unfold isL; simp only [Int32.lt_iff_toInt_lt, Int32.le_iff_toInt_le, ← Int32.toInt_inj, Int32.reduceToInt] at c_13 c_19 ⊢; omega
      have hE : tkE (M 6) n q = enR (M 6) n 97 122 q := if_pos hL
      refine j_aload_n C dX6_scanToken_22 rfl rfl ?_
      refine j_iload_n C dX6_scanToken_23 rfl rfl ?_
      refine j_bipush (v := 97) C dX6_scanToken_24 rfl ?_
      refine j_bipush (v := 122) C dX6_scanToken_26 rfl ?_
      refine j_calliv C (c_X6_endOfRun _ _ _ _ _ _ _ n hT q rfl (by omega)) dX6_scanToken_28 jm_RX6_45 ⟨_, _, _, _, wO cTp, rfl, rfl⟩ ⟨by decide, by decide, by decide, by decide⟩ rfl (Nat.le_of_ble_eq_true rfl) (fun r_28 z_28 hz_28 => ?_)
      obtain ⟨hr, hz⟩ := hz_28; have hz := hz.symm; subst hz; rw [← hE] at hr; have hr := hr.symm; subst hr
      refine j_istore_n (lv' := [(3, _), (2, _), (0, _), (1, _)]) C dX6_scanToken_31 rfl (by decide) rfl ?_
      refine j_aload_n C dX6_scanToken_32 rfl rfl ?_
      refine j_aload_n C dX6_scanToken_33 rfl rfl ?_
      refine j_iload_n C dX6_scanToken_34 rfl rfl ?_
      refine j_iload_n C dX6_scanToken_35 rfl rfl ?_
      refine j_calliv C (c_X6_wordOf _ _ _ _ _ _ n hT q (tkE (M 6) n q) rfl rfl hgt.2 (by omega)) dX6_scanToken_36 jm_RX6_49 ⟨_, _, _, _, wO cTp, rfl, rfl⟩ ⟨by decide, by decide, by decide, by decide⟩ rfl (Nat.le_of_ble_eq_true rfl) (fun r z hz => ?_)
      obtain ⟨hr, hz⟩ := hz; have hr := hr.symm; have hz := hz.symm; subst hr; subst hz
      refine j_iload_n C dX6_scanToken_39 rfl rfl ?_
      refine j_iconst (v := 0) C dX6_scanToken_40 rfl ?_
      refine j_callvv C (c_X6_put _ _ _ _ _ _ _ k hk hk2) dX6_scanToken_41 jm_RX6_38 ⟨_, _, _, _, wO cTp, rfl, rfl⟩ ⟨by decide, by decide, by decide, by decide⟩ rfl (Nat.le_of_ble_eq_true rfl) (fun z_41 hz_41 => ?_)
      have hz_41 := hz_41.symm; subst hz_41
      refine j_goto (tgt := 116) C dX6_scanToken_44 (by decide) ?_
      refine j_iload_n C dX6_scanToken_116 rfl rfl ?_
      refine hret _ _ _ _ dX6_scanToken_117 rfl ?_
      have e4 : (nI (tkE (M 6) n q - q)).toInt = tkE (M 6) n q - q := by rw [nI_toInt (by omega)]; omega
      first
        | (have h1 : tkC (M 6) n q = woS (M 6) q (tkE (M 6) n q) := if_pos hL
           have h2 : tkN (M 6) n q = 0 := if_neg (fun h => h.1 hL)
           rw [h1, h2]; exact ⟨rfl, rfl⟩)
        | (have h2 : tkN (M 6) n q = nuS (M 6) q (tkE (M 6) n q - q) := if_pos ⟨hL, hD⟩
           have h1 : tkC (M 6) n q = 13 := by
             unfold tkC; rw [if_neg hL, if_pos hD, if_pos (by simp only [Int32.lt_iff_toInt_lt, Int32.le_iff_toInt_le, ← Int32.toInt_inj, Int32.reduceToInt, e4] at c_74; omega)]
           rw [h1, h2]; exact ⟨rfl, rfl⟩)
        | (have h2 : tkN (M 6) n q = nuS (M 6) q (tkE (M 6) n q - q) := if_pos ⟨hL, hD⟩
           have h1 : tkC (M 6) n q = 15 := by
             unfold tkC; rw [if_neg hL, if_pos hD, if_neg (by simp only [Int32.lt_iff_toInt_lt, Int32.le_iff_toInt_le, ← Int32.toInt_inj, Int32.reduceToInt, e4] at c_74; omega)]
           rw [h1, h2]; exact ⟨rfl, rfl⟩)
        | (have h2 : tkN (M 6) n q = 0 := if_neg (fun h => hD h.2)
           have h3 : tkE (M 6) n q = q + 1 := (if_neg hL).trans (if_neg hD)
           have h1 : tkC (M 6) n q = M 6 q := by
             unfold tkC; rw [if_neg hL, if_neg hD, if_pos b_99]
           rw [h1, h2, h3]; exact ⟨nI_1 q, rfl⟩)
        | (have h2 : tkN (M 6) n q = 0 := if_neg (fun h => hD h.2)
           have h3 : tkE (M 6) n q = q + 1 := (if_neg hL).trans (if_neg hD)
           have h1 : tkC (M 6) n q = 15 := by
             unfold tkC; rw [if_neg hL, if_neg hD, if_neg b_99]
           rw [h1, h2, h3]; exact ⟨nI_1 q, rfl⟩)
