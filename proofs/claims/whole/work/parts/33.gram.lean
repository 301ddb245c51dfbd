/-! THE GRAMMAR over a row of tokens tc (numbers tn): where it stands, what is kept behind acc -/
abbrev PS : Type := Bool × Nat × List Int32
abbrev PF : Type := Nat → List Int32 → PS
/-- one more after each sign of a kind -/
def lpS (tc : Nat → Int32) (ok : Int32 → Bool) (f : PF) : Nat → PS → PS
  | 0, r => r
  | k + 1, r => if r.1 = true ∧ ok (tc r.2.1) = true then lpS tc ok f k ((f (r.2.1 + 1) r.2.2).1, (f (r.2.1 + 1) r.2.2).2.1, (f (r.2.1 + 1) r.2.2).2.2 ++ [-(tc r.2.1)]) else r
def seS' (tc : Nat → Int32) (ok : Int32 → Bool) (f : PF) : PF := fun p acc => lpS tc ok f 160 (f p acc)
def okM (t : Int32) : Bool := t == 42
def okA (t : Int32) : Bool := t == 43 || t == 45
def okN (t : Int32) : Bool := t == 11
def okO (t : Int32) : Bool := t == 10
/-- ONE, d more may be open -/
def oneS (tc tn : Nat → Int32) (d : Nat) (one' or' : PF) : PF := fun p acc =>
  if tc p = 13 then (true, p + 1, acc ++ [tn p])
  else if 1 ≤ tc p ∧ tc p ≤ 6 then (true, p + 1, acc ++ [-(tc p)])
  else if (¬ tc p = 45 ∧ ¬ tc p = 40) ∨ d = 0 then (false, p, acc)
  else if tc p = 40 then (if (or' (p + 1) acc).1 = true ∧ tc (or' (p + 1) acc).2.1 = 41 then (true, (or' (p + 1) acc).2.1 + 1, (or' (p + 1) acc).2.2) else (false, (or' (p + 1) acc).2.1, (or' (p + 1) acc).2.2))
  else ((one' (p + 1) acc).1, (one' (p + 1) acc).2.1, (one' (p + 1) acc).2.2 ++ [-16])
def ntS (tc : Nat → Int32) (d : Nat) (nt' sum : PF) : PF := fun p acc =>
  if tc p = 12 then (if d = 0 then (false, p, acc) else ((nt' (p + 1) acc).1, (nt' (p + 1) acc).2.1, (nt' (p + 1) acc).2.2 ++ [-12]))
  else if (sum p acc).1 = false then sum p acc
  else if tc (sum p acc).2.1 = 60 ∨ tc (sum p acc).2.1 = 61 then ((sum ((sum p acc).2.1 + 1) (sum p acc).2.2).1, (sum ((sum p acc).2.1 + 1) (sum p acc).2.2).2.1, (sum ((sum p acc).2.1 + 1) (sum p acc).2.2).2.2 ++ [-(tc (sum p acc).2.1)])
  else sum p acc
abbrev LV : Type := PF × PF × PF
/-- a level: ONE, NOT, E -/
def mkL (tc tn : Nat → Int32) (d : Nat) (v : LV) : LV :=
  (oneS tc tn d v.1 v.2.2, ntS tc d v.2.1 (seS' tc okA (seS' tc okM (oneS tc tn d v.1 v.2.2))),
    seS' tc okO (seS' tc okN (ntS tc d v.2.1 (seS' tc okA (seS' tc okM (oneS tc tn d v.1 v.2.2))))))
def noS : PF := fun p acc => (false, p, acc)
def lvS (tc tn : Nat → Int32) : Nat → LV
  | 0 => mkL tc tn 0 (noS, noS, noS)
  | d + 1 => mkL tc tn (d + 1) (lvS tc tn d)
def onL (tc tn : Nat → Int32) (d : Nat) : PF := (lvS tc tn d).1
def ntL (tc tn : Nat → Int32) (d : Nat) : PF := (lvS tc tn d).2.1
def orL (tc tn : Nat → Int32) (d : Nat) : PF := (lvS tc tn d).2.2
def teL (tc tn : Nat → Int32) (d : Nat) : PF := seS' tc okM (onL tc tn d)
def suL (tc tn : Nat → Int32) (d : Nat) : PF := seS' tc okA (teL tc tn d)
def anL (tc tn : Nat → Int32) (d : Nat) : PF := seS' tc okN (ntL tc tn d)
theorem orL_e (tc tn : Nat → Int32) (d : Nat) : orL tc tn d = seS' tc okO (anL tc tn d) := by cases d <;> rfl
theorem ntL_0 (tc tn : Nat → Int32) : ntL tc tn 0 = ntS tc 0 noS (suL tc tn 0) := rfl
theorem ntL_s (tc tn : Nat → Int32) (d : Nat) : ntL tc tn (d + 1) = ntS tc (d + 1) (ntL tc tn d) (suL tc tn (d + 1)) := rfl
theorem onL_0 (tc tn : Nat → Int32) : onL tc tn 0 = oneS tc tn 0 noS noS := rfl
theorem onL_s (tc tn : Nat → Int32) (d : Nat) : onL tc tn (d + 1) = oneS tc tn (d + 1) (onL tc tn d) (orL tc tn d) := rfl
/-- N tokens: none is read beyond them, what is kept grows no faster than what is read -/
def gdS (tc : Nat → Int32) (N : Nat) (f : PF) : Prop := ∀ p acc, p ≤ N → p ≤ (f p acc).2.1 ∧ (f p acc).2.1 ≤ N ∧ (f p acc).2.2.length + p ≤ acc.length + (f p acc).2.1 ∧ ((f p acc).1 = true → p < (f p acc).2.1)
theorem lpS_gd {tc : Nat → Int32} {N : Nat} {ok : Int32 → Bool} {f : PF} (hN : ∀ k, N ≤ k → tc k = 14) (hok : ok 14 = false) (hf : gdS tc N f) : ∀ k (r : PS), r.2.1 ≤ N → r.2.1 ≤ (lpS tc ok f k r).2.1 ∧ (lpS tc ok f k r).2.1 ≤ N ∧ (lpS tc ok f k r).2.2.length + r.2.1 ≤ r.2.2.length + (lpS tc ok f k r).2.1
  | 0, r, h => ⟨Nat.le_refl _, h, Nat.le_refl _⟩
  | k + 1, r, h => by
    rw [lpS]
    by_cases hc : r.1 = true ∧ ok (tc r.2.1) = true
    · rw [if_pos hc]
      have hlt : r.2.1 < N := by
        rcases Nat.lt_or_ge r.2.1 N with h1 | h1
        · exact h1
        · rw [hN _ h1, hok] at hc; exact absurd hc.2 (by decide)
      have h1 := hf (r.2.1 + 1) r.2.2 hlt
      have h2 := lpS_gd hN hok hf k ((f (r.2.1 + 1) r.2.2).1, (f (r.2.1 + 1) r.2.2).2.1, (f (r.2.1 + 1) r.2.2).2.2 ++ [-(tc r.2.1)]) h1.2.1
      simp only [List.length_append, List.length_singleton] at h2
      omega
    · rw [if_neg hc]; exact ⟨Nat.le_refl _, h, Nat.le_refl _⟩
theorem lpS_fail {tc : Nat → Int32} {ok : Int32 → Bool} {f : PF} {k : Nat} {r : PS} (h : r.1 = false) : lpS tc ok f k r = r := by
  cases k with
  | zero => rfl
  | succ k => rw [lpS, if_neg (by rw [h]; simp)]
theorem seS'_gd {tc : Nat → Int32} {N : Nat} {ok : Int32 → Bool} {f : PF} (hN : ∀ k, N ≤ k → tc k = 14) (hok : ok 14 = false) (hf : gdS tc N f) : gdS tc N (seS' tc ok f) := by
  intro p acc hp
  have h1 := hf p acc hp
  have h2 := lpS_gd hN hok hf 160 (f p acc) h1.2.1
  refine ⟨by unfold seS'; omega, h2.2.1, by unfold seS'; omega, fun h => ?_⟩
  unfold seS' at h ⊢
  cases hb : (f p acc).1 with
  | true => have := h1.2.2.2 hb; omega
  | false => rw [lpS_fail hb] at h; rw [hb] at h; exact absurd h (by decide)
theorem oneS_gd {tc tn : Nat → Int32} {N d : Nat} {o e : PF} (hN : ∀ k, N ≤ k → tc k = 14) (h1 : d = 0 ∨ (gdS tc N o ∧ gdS tc N e)) : gdS tc N (oneS tc tn d o e) := by
  intro p acc hp
  have hlt : ¬ tc p = 14 → p < N := fun h => by
    rcases Nat.lt_or_ge p N with h1 | h1
    · exact h1
    · exact absurd (hN _ h1) h
  unfold oneS
  by_cases c1 : tc p = 13
  · rw [if_pos c1]
    have := hlt (by rw [c1]; decide)
    simp; omega
  rw [if_neg c1]
  by_cases c2 : 1 ≤ tc p ∧ tc p ≤ 6
  · rw [if_pos c2]
    have := hlt (fun h => by rw [h] at c2; exact absurd c2 (by decide))
    simp; omega
  rw [if_neg c2]
  by_cases c3 : (¬ tc p = 45 ∧ ¬ tc p = 40) ∨ d = 0
  · rw [if_pos c3]; simp; omega
  rw [if_neg c3]
  obtain ⟨ho, he⟩ := h1.resolve_left (fun h => c3 (Or.inr h))
  have hl := hlt (fun h => c3 (Or.inl ⟨by rw [h]; decide, by rw [h]; decide⟩))
  by_cases c4 : tc p = 40
  · rw [if_pos c4]
    have h2 := he (p + 1) acc hl
    split
    · rename_i c5
      have : (e (p + 1) acc).2.1 < N := by
        rcases Nat.lt_or_ge (e (p + 1) acc).2.1 N with h1 | h1
        · exact h1
        · rw [hN _ h1] at c5; exact absurd c5.2 (by decide)
      simp only []; omega
    · simp only []; exact ⟨by omega, by omega, by omega, fun h => absurd h (by decide)⟩
  · rw [if_neg c4]
    have h2 := ho (p + 1) acc hl
    simp only [List.length_append, List.length_singleton]
    exact ⟨by omega, by omega, by omega, fun h => by have := h2.2.2.2 h; omega⟩
theorem ntS_gd {tc : Nat → Int32} {N d : Nat} {nt sum : PF} (hN : ∀ k, N ≤ k → tc k = 14) (h1 : d = 0 ∨ gdS tc N nt) (hs : gdS tc N sum) : gdS tc N (ntS tc d nt sum) := by
  intro p acc hp
  have hlt : ∀ q, q ≤ N → ¬ tc q = 14 → q < N := fun q hq h => by
    rcases Nat.lt_or_ge q N with h1 | h1
    · exact h1
    · exact absurd (hN _ h1) h
  unfold ntS
  by_cases c1 : tc p = 12
  · rw [if_pos c1]
    have hl := hlt p hp (by rw [c1]; decide)
    by_cases c2 : d = 0
    · rw [if_pos c2]; simp; omega
    rw [if_neg c2]
    have h2 := h1.resolve_left c2 (p + 1) acc hl
    simp only [List.length_append, List.length_singleton]
    exact ⟨by omega, by omega, by omega, fun h => by have := h2.2.2.2 h; omega⟩
  rw [if_neg c1]
  have h2 := hs p acc hp
  by_cases c2 : (sum p acc).1 = false
  · rw [if_pos c2]; exact h2
  rw [if_neg c2]
  by_cases c3 : tc (sum p acc).2.1 = 60 ∨ tc (sum p acc).2.1 = 61
  · rw [if_pos c3]
    have hl := hlt _ h2.2.1 (fun h => by rw [h] at c3; exact absurd c3 (by decide))
    have h3 := hs ((sum p acc).2.1 + 1) (sum p acc).2.2 hl
    simp only [List.length_append, List.length_singleton]
    exact ⟨by omega, by omega, by omega, fun h => by have := h3.2.2.2 h; omega⟩
  · rw [if_neg c3]; exact h2
theorem lvS_gd {tc tn : Nat → Int32} {N : Nat} (hN : ∀ k, N ≤ k → tc k = 14) : ∀ d, gdS tc N (onL tc tn d) ∧ gdS tc N (ntL tc tn d) ∧ gdS tc N (orL tc tn d) ∧ gdS tc N (suL tc tn d) ∧ gdS tc N (teL tc tn d) ∧ gdS tc N (anL tc tn d)
  | 0 => by
    have h1 : gdS tc N (onL tc tn 0) := oneS_gd hN (Or.inl rfl)
    have h2 : gdS tc N (teL tc tn 0) := seS'_gd hN rfl h1
    have h3 : gdS tc N (suL tc tn 0) := seS'_gd hN rfl h2
    have h4 : gdS tc N (ntL tc tn 0) := ntS_gd hN (Or.inl rfl) h3
    have h5 : gdS tc N (anL tc tn 0) := seS'_gd hN rfl h4
    exact ⟨h1, h4, by rw [orL_e]; exact seS'_gd hN rfl h5, h3, h2, h5⟩
  | d + 1 => by
    have h0 := lvS_gd (tn := tn) hN d
    have h1 : gdS tc N (onL tc tn (d + 1)) := oneS_gd hN (Or.inr ⟨h0.1, h0.2.2.1⟩)
    have h2 : gdS tc N (teL tc tn (d + 1)) := seS'_gd hN rfl h1
    have h3 : gdS tc N (suL tc tn (d + 1)) := seS'_gd hN rfl h2
    have h4 : gdS tc N (ntL tc tn (d + 1)) := ntS_gd hN (Or.inr h0.2.1) h3
    have h5 : gdS tc N (anL tc tn (d + 1)) := seS'_gd hN rfl h4
    exact ⟨h1, h4, by rw [orL_e]; exact seS'_gd hN rfl h5, h3, h2, h5⟩
-- A PART, A TEXT
def paL (tc tn : Nat → Int32) (key : Int32) : PF := fun p acc =>
  if ¬ tc p = key then (false, p, acc)
  else if (orL tc tn 5 (p + 1) acc).1 = true ∧ tc (orL tc tn 5 (p + 1) acc).2.1 = 59 then (true, (orL tc tn 5 (p + 1) acc).2.1 + 1, (orL tc tn 5 (p + 1) acc).2.2)
  else (false, (orL tc tn 5 (p + 1) acc).2.1, (orL tc tn 5 (p + 1) acc).2.2)
theorem paL_gd {tc tn : Nat → Int32} {N : Nat} {key : Int32} (hN : ∀ k, N ≤ k → tc k = 14) (hk : ¬ key = 14) : gdS tc N (paL tc tn key) := by
  intro p acc hp
  have he := (lvS_gd (tn := tn) hN 5).2.2.1
  unfold paL
  by_cases c1 : tc p = key
  · rw [if_neg (fun h => h c1)]
    have hl : p < N := by
      rcases Nat.lt_or_ge p N with h1 | h1
      · exact h1
      · exact absurd ((hN _ h1).symm.trans c1) (fun h => hk h.symm)
    have h2 := he (p + 1) acc hl
    split
    · rename_i c5
      have : (orL tc tn 5 (p + 1) acc).2.1 < N := by
        rcases Nat.lt_or_ge (orL tc tn 5 (p + 1) acc).2.1 N with h1 | h1
        · exact h1
        · rw [hN _ h1] at c5; exact absurd c5.2 (by decide)
      simp only []; omega
    · simp only []; exact ⟨by omega, by omega, by omega, fun h => absurd h (by decide)⟩
  · rw [if_pos c1]; simp; omega
def tx1 (tc tn : Nat → Int32) : PS := paL tc tn 7 0 []
def tx2 (tc tn : Nat → Int32) : PS := paL tc tn 8 (tx1 tc tn).2.1 (tx1 tc tn).2.2
def tx3 (tc tn : Nat → Int32) : PS := paL tc tn 9 (tx2 tc tn).2.1 (tx2 tc tn).2.2
/-- the token at which a text can't go on, or none -/
def flS (tc tn : Nat → Int32) : Option Nat :=
  if (tx1 tc tn).1 = false then some (tx1 tc tn).2.1 else if (tx2 tc tn).1 = false then some (tx2 tc tn).2.1 else if (tx3 tc tn).1 = false then some (tx3 tc tn).2.1
  else if tc (tx3 tc tn).2.1 = 14 then none else some (tx3 tc tn).2.1
/-- the rows of a text's parts -/
def tdT (tc tn : Nat → Int32) (q : Nat) : List Int32 := if q = 0 then (tx1 tc tn).2.2 else if q = 1 then (tx2 tc tn).2.2.drop (tx1 tc tn).2.2.length else (tx3 tc tn).2.2.drop (tx2 tc tn).2.2.length

set_option maxHeartbeats 4000000 in
set_option maxRecDepth 100000 in
theorem c_X6_scan (l : Launch) (g : jG) (a : Nat → Nat) (M : (Nat → Nat → Int32))  (n : Nat) (hT : tpR M n) : Cv l g yX6_scan cX6_scan 3 7 155 0 0 (cW g a) [.ref (a 5)] M (fun z => scR z n ∧ (∀ k, k ≠ 5 → k ≠ 7 → k ≠ 8 → k ≠ 9 → z k = M k) ∧ ∀ j, j ≠ 5 → z 5 j = M 5 j) := by
  refine mk_v (by decide +kernel) rfl (fun KK hKl hKg C hin hret => ?_)
  subst hKl; subst hKg
  refine j_lv (lv' := [(0, _)]) rfl ?_
  have hT2 := hT.2
  have e_n : (M 5 1).toInt = n := by rw [hT.1]; exact nI_toInt (by have := hT.2; omega)
  refine j_aload_n C dX6_scan_0 rfl rfl ?_
  refine j_iconst (v := 0) C dX6_scan_1 rfl ?_
  refine j_put C dX6_scan_2 jp_RX6_28 (wO cTp) (Nat.le_of_ble_eq_true rfl) rfl rfl (sO cTp 5 _ rfl) ?_
  have hT0 : tpR (uM M 5 5 0) n := ⟨by rw [uM_n (by decide)]; exact hT.1, hT2⟩
  refine j_aload_n C dX6_scan_5 rfl rfl ?_
  refine j_iconst (v := 0) C dX6_scan_6 rfl ?_
  refine j_calliv C (c_X6_behindBlanks _ _ _ _ _ n hT0 0 rfl (by omega)) dX6_scan_7 jm_RX6_31 ⟨_, _, _, _, wO cTp, rfl, rfl⟩ ⟨by decide, by decide, by decide, by decide⟩ rfl (Nat.le_of_ble_eq_true rfl) (fun r_7 z_7 hz_7 => ?_)
  obtain ⟨hr, hz⟩ := hz_7; have hz := hz.symm; subst hz; rw [uM_ne (k' := 6) (by decide)] at hr; have hr := hr.symm; subst hr
  refine j_istore_n (lv' := [(1, _), (0, _)]) C dX6_scan_10 rfl (by decide) rfl ?_
  refine j_iconst (v := 0) C dX6_scan_11 rfl ?_
  refine j_istore_n (lv' := [(2, _), (1, _), (0, _)]) C dX6_scan_12 rfl (by decide) rfl ?_
  have L_13 : ∀ k : Nat, ∀ (i : Nat) (M' : Nat → Nat → Int32), i ≤ 160 → 160 < i + k → M' 5 5 = nI i → (∀ j, j < i → psS (M 6) n j < n) → (∀ j, j < i → M' 7 j = tcS (M 6) n j ∧ M' 8 j = nI (psS (M 6) n j) ∧ M' 9 j = tnS (M 6) n j) → (∀ k, k ≠ 5 → k ≠ 7 → k ≠ 8 → k ≠ 9 → M' k = M k) → (∀ j, j ≠ 5 → M' 5 j = M 5 j) → J KK (cW (kG KK) a) 0 0 M' [(0, .ref (a 5)), (1, .int (nI (psS (M 6) n i))), (2, .int (nI i))] 13 [] := by
    intro k
    induction k with
    | zero => intro i M' h1 hk hc hp ht hF hJ; omega
    | succ k ih =>
      intro i M' h1 hk hc hp ht hF hJ
      have e_i : (nI i).toInt = i := nI_toInt (by omega)
      have h6 : M' 6 = M 6 := hF 6 (by decide) (by decide) (by decide) (by decide)
      have hps := psS_le (b := M 6) (n := n) i
      have e_p : (nI (psS (M 6) n i)).toInt = psS (M 6) n i := nI_toInt (by omega)
      have hT9 : tpR M' n := ⟨by rw [hJ 1 (by decide)]; exact hT.1, hT2⟩
      refine j_iload_n C dX6_scan_13 rfl rfl ?_
      refine j_sipush (v := 160) C dX6_scan_14 rfl ?_
      refine j_icmp_ge (tgt := 44) C dX6_scan_17 (by decide) (fun c_1 => ?_) (fun c_1 => ?_)
      · skip
        have hno : ¬ psS (M 6) n i < n := fun h => by have := psS_ge i h; simp only [Int32.lt_iff_toInt_lt, Int32.le_iff_toInt_le, ← Int32.toInt_inj, Int32.reduceToInt, e_i] at c_1; omega
        refine j_aload_n C dX6_scan_44 rfl rfl ?_
        refine j_bipush (v := 14) C dX6_scan_45 rfl ?_
        refine j_aload_n C dX6_scan_47 rfl rfl ?_
        refine j_get C dX6_scan_48 jf_RX6_24 (wO cTp) rfl ?_
        refine j_iconst (v := 0) C dX6_scan_51 rfl ?_
        refine j_callvv C (c_X6_put _ _ _ _ _ _ _ i hc (by omega)) dX6_scan_52 jm_RX6_38 ⟨_, _, _, _, wO cTp, rfl, rfl⟩ ⟨by decide, by decide, by decide, by decide⟩ rfl (Nat.le_of_ble_eq_true rfl) (fun z_52 hz_52 => ?_)
        have hz_52 := hz_52.symm; subst hz_52
        refine hret _ _ _ dX6_scan_55 ?_
        have hpn := psS_end hno i (Nat.le_refl _)
        have hin : i ≤ n := by
          rcases Nat.eq_zero_or_pos i with h | h
          · omega
          · have h2 := hp (i - 1) (by omega)
            have := psS_ge (i - 1) h2
            omega
        refine ⟨⟨⟨by rw [uM_n (by decide), uM_ne (by decide), uM_ne (by decide), uM_ne (by decide)]; exact hT9.1, hT2⟩, i, hin, ?_, ?_, by rw [uM_s], fun j hj => ?_⟩, fun k a b c d => by rw [uM_ne a, uM_ne d, uM_ne c, uM_ne b]; exact hF k a b c d, fun j a => by rw [uM_n a, uM_ne (by decide), uM_ne (by decide), uM_ne (by decide)]; exact hJ j a⟩
        · rw [uM_ne (k' := 6) (by decide), uM_ne (k' := 6) (by decide), uM_ne (k' := 6) (by decide), uM_ne (k' := 6) (by decide), h6]; exact hno
        · intro j hj
          rw [uM_ne (k' := 6) (by decide), uM_ne (k' := 6) (by decide), uM_ne (k' := 6) (by decide), uM_ne (k' := 6) (by decide), h6]; exact hp j hj
        · rw [uM_ne (k' := 6) (by decide), uM_ne (k' := 6) (by decide), uM_ne (k' := 6) (by decide), uM_ne (k' := 6) (by decide), h6]
          by_cases h : j = i
          · subst h
            simp only [uM_all]
            have hs : M' 5 1 = nI n := hT9.1
            simp [tcS, tnS, hpn, hs]
          · have h2 := ht j (by omega)
            simp only [uM_all]
            simp [h, h2]
      · skip
        have hi : i < 160 := by simp only [Int32.lt_iff_toInt_lt, Int32.le_iff_toInt_le, ← Int32.toInt_inj, Int32.reduceToInt, e_i] at c_1; omega
        refine j_iload_n C dX6_scan_20 rfl rfl ?_
        refine j_aload_n C dX6_scan_21 rfl rfl ?_
        refine j_get C dX6_scan_22 jf_RX6_24 (wO cTp) rfl ?_
        refine j_icmp_ge (tgt := 44) C dX6_scan_25 (by decide) (fun c_25 => ?_) (fun c_25 => ?_)
        · skip
          have hno : ¬ psS (M 6) n i < n := by rw [hJ 1 (by decide)] at c_25; simp only [Int32.lt_iff_toInt_lt, Int32.le_iff_toInt_le, ← Int32.toInt_inj, Int32.reduceToInt, e_n, e_p] at c_25; omega
          refine j_aload_n C dX6_scan_44 rfl rfl ?_
          refine j_bipush (v := 14) C dX6_scan_45 rfl ?_
          refine j_aload_n C dX6_scan_47 rfl rfl ?_
          refine j_get C dX6_scan_48 jf_RX6_24 (wO cTp) rfl ?_
          refine j_iconst (v := 0) C dX6_scan_51 rfl ?_
          refine j_callvv C (c_X6_put _ _ _ _ _ _ _ i hc (by omega)) dX6_scan_52 jm_RX6_38 ⟨_, _, _, _, wO cTp, rfl, rfl⟩ ⟨by decide, by decide, by decide, by decide⟩ rfl (Nat.le_of_ble_eq_true rfl) (fun z_52 hz_52 => ?_)
          have hz_52 := hz_52.symm; subst hz_52
          refine hret _ _ _ dX6_scan_55 ?_
          have hpn := psS_end hno i (Nat.le_refl _)
          have hin : i ≤ n := by
            rcases Nat.eq_zero_or_pos i with h | h
            · omega
            · have h2 := hp (i - 1) (by omega)
              have := psS_ge (i - 1) h2
              omega
          refine ⟨⟨⟨by rw [uM_n (by decide), uM_ne (by decide), uM_ne (by decide), uM_ne (by decide)]; exact hT9.1, hT2⟩, i, hin, ?_, ?_, by rw [uM_s], fun j hj => ?_⟩, fun k a b c d => by rw [uM_ne a, uM_ne d, uM_ne c, uM_ne b]; exact hF k a b c d, fun j a => by rw [uM_n a, uM_ne (by decide), uM_ne (by decide), uM_ne (by decide)]; exact hJ j a⟩
          · rw [uM_ne (k' := 6) (by decide), uM_ne (k' := 6) (by decide), uM_ne (k' := 6) (by decide), uM_ne (k' := 6) (by decide), h6]; exact hno
          · intro j hj
            rw [uM_ne (k' := 6) (by decide), uM_ne (k' := 6) (by decide), uM_ne (k' := 6) (by decide), uM_ne (k' := 6) (by decide), h6]; exact hp j hj
          · rw [uM_ne (k' := 6) (by decide), uM_ne (k' := 6) (by decide), uM_ne (k' := 6) (by decide), uM_ne (k' := 6) (by decide), h6]
            by_cases h : j = i
            · subst h
              simp only [uM_all]
              have hs : M' 5 1 = nI n := hT9.1
              simp [tcS, tnS, hpn, hs]
            · have h2 := ht j (by omega)
              simp only [uM_all]
              simp [h, h2]
        · skip
          have hlt : psS (M 6) n i < n := by rw [hJ 1 (by decide)] at c_25; simp only [Int32.lt_iff_toInt_lt, Int32.le_iff_toInt_le, ← Int32.toInt_inj, Int32.reduceToInt, e_n, e_p] at c_25; omega
          refine j_aload_n C dX6_scan_28 rfl rfl ?_
          refine j_aload_n C dX6_scan_29 rfl rfl ?_
          refine j_iload_n C dX6_scan_30 rfl rfl ?_
          refine j_calliv C (c_X6_scanToken _ _ _ _ _ n hT9 (psS (M 6) n i) i rfl hlt hc (by omega)) dX6_scan_31 jm_RX6_35 ⟨_, _, _, _, wO cTp, rfl, rfl⟩ ⟨by decide, by decide, by decide, by decide⟩ rfl (Nat.le_of_ble_eq_true rfl) (fun r_31 z_31 hz_31 => ?_)
          rw [h6] at hz_31
          obtain ⟨hr, hz⟩ := hz_31; have hr := hr.symm; have hz := hz.symm; subst hr; subst hz
          have hE := tkE_gt (b := M 6) hlt
          refine j_calliv C (c_X6_behindBlanks _ _ _ _ _ n ⟨by rw [uM_n (by decide), uM_ne (by decide), uM_ne (by decide), uM_ne (by decide)]; exact hT9.1, hT2⟩ _ rfl hE.2) dX6_scan_34 jm_RX6_31 ⟨_, _, _, _, wO cTp, rfl, rfl⟩ ⟨by decide, by decide, by decide, by decide⟩ rfl (Nat.le_of_ble_eq_true rfl) (fun r_34 z_34 hz_34 => ?_)
          obtain ⟨hr, hz⟩ := hz_34; have hz := hz.symm; subst hz; rw [uM_ne (k' := 6) (by decide), uM_ne (k' := 6) (by decide), uM_ne (k' := 6) (by decide), uM_ne (k' := 6) (by decide), h6] at hr; have hr := hr.symm; subst hr
          refine j_istore_n (lv' := [(1, _), (0, _), (2, _)]) C dX6_scan_37 rfl (by decide) rfl ?_
          refine j_iinc (lv' := [(2, _), (1, _), (0, _)]) (v := nI (i + 1)) C dX6_scan_38 rfl (j_inc1 i) (by decide) rfl ?_
          refine j_goto (tgt := 13) C dX6_scan_41 (by decide) ?_
          refine j_lv (lv' := [(0, _), (1, _), (2, _)]) rfl ?_
          have hps2 : skS (M 6) n (tkE (M 6) n (psS (M 6) n i)) = psS (M 6) n (i + 1) := by rw [psS, if_pos hlt]
          rw [hps2]
          refine ih (i + 1) _ (by omega) (by omega) (by rw [uM_s]) (fun j hj => ?_) (fun j hj => ?_) (fun k a b c d => by rw [uM_ne a, uM_ne d, uM_ne c, uM_ne b]; exact hF k a b c d) (fun j a => by rw [uM_n a, uM_ne (by decide), uM_ne (by decide), uM_ne (by decide)]; exact hJ j a)
          · by_cases h : j = i
            · subst h; exact hlt
            · exact hp j (by omega)
          · by_cases h : j = i
            · subst h
              simp only [uM_all]
              simp [tcS, tnS, hlt]
            · have h2 := ht j (by omega)
              simp only [uM_all]
              simp [h, h2]
  refine j_lv (lv' := [(0, _), (1, _), (2, _)]) rfl ?_
  exact L_13 161 0 _ (by omega) (by omega) (by rw [uM_s]; rfl) (fun j h => absurd h (by omega)) (fun j h => absurd h (by omega)) (fun k a b c d => uM_ne a) (fun j a => uM_n a)
