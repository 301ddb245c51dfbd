/-! THE REFERENCE'S LEVELS: each reads and reckons at once what the class keeps as a row -/
def ocM (x z : mS) (b : Nat → Int32) (n D : Nat) (R : PS) (r : Int32) : Prop := mF x z ∧ z.1 0 23 = nI D ∧ ((R.1 = true ∧ stM z b n (psS b n R.2.1) ∧ ∀ s, ruS (eM x) R.2.2 s = r :: s) ∨ (R.1 = false ∧ ¬ z.1 0 24 = 0 ∧ z.1 0 25 = nI (psS b n R.2.1)))
theorem oc_S {x z : mS} {b : Nat → Int32} {n D t : Nat} {R : PS} {r : Int32} (hrb : rbM x b n t) (h : ocM x z b n D R r) : ¬ z.1 0 24 = 0 ∨ (rbM z b n t ∧ stM z b n (psS b n R.2.1)) := h.2.2.elim (fun k => Or.inr ⟨rbM_m hrb h.1, k.2.1⟩) (fun k => Or.inl k.2.1)
theorem oc_1 {x z : mS} {b : Nat → Int32} {n D : Nat} {R : PS} {r : Int32} (h : ocM x z b n D R r) (h0 : z.1 0 24 = 0) : R.1 = true ∧ stM z b n (psS b n R.2.1) ∧ ∀ s, ruS (eM x) R.2.2 s = r :: s := h.2.2.resolve_right (fun k => k.2.1 h0)
theorem oc_0 {x z : mS} {b : Nat → Int32} {n D : Nat} {R : PS} {r : Int32} (h : ocM x z b n D R r) (h0 : R.1 = true) : z.1 0 24 = 0 := (h.2.2.resolve_right (fun k => by rw [k.1] at h0; exact absurd h0 (by decide))).2.1.1
-- what is kept doesn't hang on what was kept
def hoS (f : PF) : Prop := ∀ p acc, f p acc = ((f p []).1, (f p []).2.1, acc ++ (f p []).2.2)
theorem lpS_ho {tc : Nat → Int32} {ok : Int32 → Bool} {f : PF} (hf : hoS f) (acc : List Int32) : ∀ (k : Nat) (o : Bool) (q : Nat) (c : List Int32), lpS tc ok f k (o, q, acc ++ c) = ((lpS tc ok f k (o, q, c)).1, (lpS tc ok f k (o, q, c)).2.1, acc ++ (lpS tc ok f k (o, q, c)).2.2)
  | 0, _, _, _ => rfl
  | k + 1, o, q, c => by
    by_cases hc : o = true ∧ ok (tc q) = true
    · have e1 := lpS_y (tc := tc) (ok := ok) (f := f) (k := k) (r := (o, q, acc ++ c)) hc
      have e2 := lpS_y (tc := tc) (ok := ok) (f := f) (k := k) (r := (o, q, c)) hc
      rw [e1, e2]
      have h1 : f (q + 1) (acc ++ c) = ((f (q + 1) []).1, (f (q + 1) []).2.1, acc ++ c ++ (f (q + 1) []).2.2) := hf _ _
      have h2 : f (q + 1) c = ((f (q + 1) []).1, (f (q + 1) []).2.1, c ++ (f (q + 1) []).2.2) := hf _ _
      show lpS tc ok f k ((f (q + 1) (acc ++ c)).1, (f (q + 1) (acc ++ c)).2.1, (f (q + 1) (acc ++ c)).2.2 ++ [-(tc q)]) = ((lpS tc ok f k ((f (q + 1) c).1, (f (q + 1) c).2.1, (f (q + 1) c).2.2 ++ [-(tc q)])).1, (lpS tc ok f k ((f (q + 1) c).1, (f (q + 1) c).2.1, (f (q + 1) c).2.2 ++ [-(tc q)])).2.1, acc ++ (lpS tc ok f k ((f (q + 1) c).1, (f (q + 1) c).2.1, (f (q + 1) c).2.2 ++ [-(tc q)])).2.2)
      rw [h1, h2]
      have h3 := lpS_ho (tc := tc) (ok := ok) hf acc k (f (q + 1) []).1 (f (q + 1) []).2.1 (c ++ (f (q + 1) []).2.2 ++ [-(tc q)])
      rw [← List.append_assoc, ← List.append_assoc] at h3
      exact h3
    · have e1 := lpS_n (tc := tc) (ok := ok) (f := f) (k := k + 1) (r := (o, q, acc ++ c)) hc
      have e2 := lpS_n (tc := tc) (ok := ok) (f := f) (k := k + 1) (r := (o, q, c)) hc
      rw [e1, e2]
theorem seS'_ho {tc : Nat → Int32} {ok : Int32 → Bool} {f : PF} (hf : hoS f) : hoS (seS' tc ok f) := fun p acc => by
  have h := lpS_ho (tc := tc) (ok := ok) hf acc 160 (f p []).1 (f p []).2.1 (f p []).2.2
  unfold seS'
  rw [hf p acc]; exact h
theorem noS_ho : hoS noS := fun p acc => by simp [noS]
theorem oneS_ho {tc tn : Nat → Int32} {d : Nat} {o e : PF} (h1 : hoS o) (h2 : hoS e) : hoS (oneS tc tn d o e) := fun p acc => by
  have e1 := h1 (p + 1) acc
  have e2 := h2 (p + 1) acc
  unfold oneS
  rw [e1, e2]
  by_cases c1 : tc p = 13
  · simp only [if_pos c1]; simp
  simp only [if_neg c1]
  by_cases c2 : 1 ≤ tc p ∧ tc p ≤ 6
  · simp only [if_pos c2]; simp
  simp only [if_neg c2]
  by_cases c3 : (¬ tc p = 45 ∧ ¬ tc p = 40) ∨ d = 0
  · simp only [if_pos c3]; simp
  simp only [if_neg c3]
  by_cases c4 : tc p = 40
  · simp only [if_pos c4]
    by_cases c5 : (e (p + 1) []).1 = true ∧ tc (e (p + 1) []).2.1 = 41
    · simp only [if_pos c5]
    · simp only [if_neg c5]
  · simp only [if_neg c4]; simp
theorem ntS_ho {tc : Nat → Int32} {d : Nat} {nt sum : PF} (h1 : hoS nt) (h2 : hoS sum) : hoS (ntS tc d nt sum) := fun p acc => by
  have e1 := h1 (p + 1) acc
  have e2 := h2 p acc
  have e3 := h2 ((sum p []).2.1 + 1) (acc ++ (sum p []).2.2)
  have e4 := h2 ((sum p []).2.1 + 1) (sum p []).2.2
  unfold ntS
  by_cases c1 : tc p = 12
  · simp only [if_pos c1]
    by_cases c2 : d = 0
    · simp only [if_pos c2]; simp
    · simp only [if_neg c2]; rw [e1]; simp
  simp only [if_neg c1]
  rw [e2]
  by_cases c3 : (sum p []).1 = false
  · simp only [if_pos c3]
  simp only [if_neg c3]
  by_cases c4 : tc (sum p []).2.1 = 60 ∨ tc (sum p []).2.1 = 61
  · simp only [if_pos c4]
    rw [e3, e4]; simp
  · simp only [if_neg c4]
theorem lvS_ho {tc tn : Nat → Int32} : ∀ d, hoS (onL tc tn d) ∧ hoS (ntL tc tn d) ∧ hoS (orL tc tn d) ∧ hoS (suL tc tn d) ∧ hoS (teL tc tn d) ∧ hoS (anL tc tn d)
  | 0 => by
    have h1 : hoS (onL tc tn 0) := oneS_ho noS_ho noS_ho
    have h2 : hoS (teL tc tn 0) := seS'_ho h1
    have h3 : hoS (suL tc tn 0) := seS'_ho h2
    have h4 : hoS (ntL tc tn 0) := ntS_ho noS_ho h3
    have h5 : hoS (anL tc tn 0) := seS'_ho h4
    exact ⟨h1, h4, by rw [orL_e]; exact seS'_ho h5, h3, h2, h5⟩
  | d + 1 => by
    obtain ⟨i1, i2, i3, _⟩ := lvS_ho (tc := tc) (tn := tn) d
    have h1 : hoS (onL tc tn (d + 1)) := oneS_ho i1 i3
    have h2 : hoS (teL tc tn (d + 1)) := seS'_ho h1
    have h3 : hoS (suL tc tn (d + 1)) := seS'_ho h2
    have h4 : hoS (ntL tc tn (d + 1)) := ntS_ho i2 h3
    have h5 : hoS (anL tc tn (d + 1)) := seS'_ho h4
    exact ⟨h1, h4, by rw [orL_e]; exact seS'_ho h5, h3, h2, h5⟩
-- values
theorem ru_jn {e : Nat → Int32} {c c2 : List Int32} {v w : Int32} (t : Int32) (h1 : ¬ (0 : Int32) ≤ -t) (h2 : ¬ (-6 : Int32) ≤ -t) (h3 : - -t = t) (h4 : ¬ t = 12) (h5 : ¬ t = 16) (hv : ∀ s, ruS e c s = v :: s) (hw : ∀ s, ruS e c2 s = w :: s) : ∀ s, ruS e (c ++ c2 ++ [-t]) s = jnS t v w :: s := fun s => by
  rw [ruS_app, ruS_app, hv, hw]
  show itS e (-t) (w :: v :: s) = _
  rw [itS, if_neg h1, if_neg h2, h3, opS, if_neg h4, if_neg h5]; rfl
theorem ru_neg {e : Nat → Int32} {c : List Int32} {v : Int32} (hv : ∀ s, ruS e c s = v :: s) : ∀ s, ruS e (c ++ [-16]) s = (-v) :: s := fun s => by
  rw [ruS_app, hv]
  show itS e (-16) (v :: s) = _
  rw [itS, if_neg (by decide), if_neg (by decide), show (- -16 : Int32) = 16 by decide, opS, if_neg (by decide), if_pos rfl]; rfl
theorem ru_not {e : Nat → Int32} {c : List Int32} {v : Int32} (hv : ∀ s, ruS e c s = v :: s) : ∀ s, ruS e (c ++ [-12]) s = (if v = 0 then 1 else 0) :: s := fun s => by
  rw [ruS_app, hv]
  show itS e (-12) (v :: s) = _
  rw [itS, if_neg (by decide), if_neg (by decide), show (- -12 : Int32) = 12 by decide, opS, if_pos rfl]; rfl
theorem ru_num {e : Nat → Int32} {v : Int32} (h : 0 ≤ v) : ∀ s, ruS e [v] s = v :: s := fun s => by
  show itS e v s = _
  rw [itS, if_pos h]
theorem ru_nam {e : Nat → Int32} {t : Int32} (h : 1 ≤ t ∧ t ≤ 6) : ∀ s, ruS e [-t] s = nmS e t :: s := fun s => by
  obtain ⟨j, hj, rfl⟩ := in_of (q := t) (m := 7) (B := 7) (by simp only [Int32.lt_iff_toInt_lt, Int32.le_iff_toInt_le, Int32.reduceToInt] at h ⊢; omega) rfl
  have hc : j = 0 ∨ j = 1 ∨ j = 2 ∨ j = 3 ∨ j = 4 ∨ j = 5 ∨ j = 6 := by omega
  show itS e (-(nI j)) s = _
  rcases hc with rfl | rfl | rfl | rfl | rfl | rfl | rfl
  · exact absurd h.1 (by decide)
  all_goals (rw [itS, if_neg (by decide), if_pos (by decide)]; rfl)
theorem jn_42 {v w : Int32} : jnS 42 v w = v * w := by simp [jnS]
theorem jn_43 {v w : Int32} : jnS 43 v w = v + w := by simp [jnS]
theorem jn_45 {v w : Int32} : jnS 45 v w = v - w := by simp [jnS]
theorem jn_11 {v w : Int32} : jnS 11 v w = if v = 0 ∨ w = 0 then 0 else 1 := by simp [jnS]
theorem jn_10 {v w : Int32} : jnS 10 v w = if v = 0 ∧ w = 0 then 0 else 1 := by simp [jnS]
theorem jn_60 {v w : Int32} : jnS 60 v w = if v < w then 1 else 0 := by simp [jnS]
theorem jn_61 {v w : Int32} : jnS 61 v w = if v = w then 1 else 0 := by simp [jnS]
-- ONE
theorem one_13 {tc tn : Nat → Int32} {d p : Nat} {o e : PF} (h : tc p = 13) : oneS tc tn d o e p [] = (true, p + 1, [tn p]) := by unfold oneS; rw [if_pos h]; rfl
theorem one_nm {tc tn : Nat → Int32} {d p : Nat} {o e : PF} (h : 1 ≤ tc p ∧ tc p ≤ 6) : oneS tc tn d o e p [] = (true, p + 1, [-(tc p)]) := by
  unfold oneS; rw [if_neg (fun k => by rw [k] at h; exact absurd h.2 (by decide)), if_pos h]; rfl
theorem one_no {tc tn : Nat → Int32} {d p : Nat} {o e : PF} (h : ¬ tc p = 13) (h2 : ¬ (1 ≤ tc p ∧ tc p ≤ 6)) (h3 : (¬ tc p = 45 ∧ ¬ tc p = 40) ∨ d = 0) : oneS tc tn d o e p [] = (false, p, []) := by
  unfold oneS; rw [if_neg h, if_neg h2, if_pos h3]
theorem one_ng {tc tn : Nat → Int32} {d p : Nat} {o e : PF} (h : tc p = 45) (hd : ¬ d = 0) : oneS tc tn d o e p [] = ((o (p + 1) []).1, (o (p + 1) []).2.1, (o (p + 1) []).2.2 ++ [-16]) := by
  unfold oneS; rw [if_neg (by rw [h]; decide), if_neg (by rw [h]; decide), if_neg (fun k => k.elim (fun k => k.1 h) hd), if_neg (by rw [h]; decide)]
theorem one_py {tc tn : Nat → Int32} {d p : Nat} {o e : PF} (h : tc p = 40) (hd : ¬ d = 0) (h2 : (e (p + 1) []).1 = true ∧ tc (e (p + 1) []).2.1 = 41) : oneS tc tn d o e p [] = (true, (e (p + 1) []).2.1 + 1, (e (p + 1) []).2.2) := by
  unfold oneS; rw [if_neg (by rw [h]; decide), if_neg (by rw [h]; decide), if_neg (fun k => k.elim (fun k => k.2 h) hd), if_pos h, if_pos h2]
theorem one_pn {tc tn : Nat → Int32} {d p : Nat} {o e : PF} (h : tc p = 40) (hd : ¬ d = 0) (h2 : ¬ ((e (p + 1) []).1 = true ∧ tc (e (p + 1) []).2.1 = 41)) : oneS tc tn d o e p [] = (false, (e (p + 1) []).2.1, (e (p + 1) []).2.2) := by
  unfold oneS; rw [if_neg (by rw [h]; decide), if_neg (by rw [h]; decide), if_neg (fun k => k.elim (fun k => k.2 h) hd), if_pos h, if_neg h2]
-- NOT
theorem nt_12 {tc : Nat → Int32} {d p : Nat} {nt su : PF} (h : tc p = 12) (hd : ¬ d = 0) : ntS tc d nt su p [] = ((nt (p + 1) []).1, (nt (p + 1) []).2.1, (nt (p + 1) []).2.2 ++ [-12]) := by
  unfold ntS; rw [if_pos h, if_neg hd]
theorem nt_0 {tc : Nat → Int32} {p : Nat} {nt su : PF} (h : tc p = 12) : ntS tc 0 nt su p [] = (false, p, []) := by
  unfold ntS; rw [if_pos h, if_pos rfl]
theorem nt_su {tc : Nat → Int32} {d p : Nat} {nt su : PF} (h : ¬ tc p = 12) (h2 : (su p []).1 = true → ¬ (tc (su p []).2.1 = 60 ∨ tc (su p []).2.1 = 61)) : ntS tc d nt su p [] = su p [] := by
  unfold ntS; rw [if_neg h]
  by_cases c : (su p []).1 = false
  · rw [if_pos c]
  · rw [if_neg c, if_neg (h2 (by cases hq : (su p []).1 with | true => rfl | false => exact absurd hq c))]
theorem nt_cm {tc : Nat → Int32} {d p : Nat} {nt su : PF} (hs : hoS su) (h : ¬ tc p = 12) (h1 : (su p []).1 = true) (h2 : tc (su p []).2.1 = 60 ∨ tc (su p []).2.1 = 61) : ntS tc d nt su p [] = ((su ((su p []).2.1 + 1) []).1, (su ((su p []).2.1 + 1) []).2.1, (su p []).2.2 ++ (su ((su p []).2.1 + 1) []).2.2 ++ [-(tc (su p []).2.1)]) := by
  unfold ntS; rw [if_neg h, if_neg (by rw [h1]; decide), if_pos h2]
  have e := hs ((su p []).2.1 + 1) (su p []).2.2
  rw [e]
-- what is at hand
theorem stM_23 {x : mS} {b : Nat → Int32} {n q : Nat} {v : Int32} (h : stM x b n q) : stM (mU x 0 23 v) b n q := by
  obtain ⟨h0, h1, h2, h3, h4, h5, h6⟩ := h
  exact ⟨by rw [mU_1, uM_n (by decide)]; exact h0, by rw [mU_1, uM_n (by decide)]; exact h1, h2, by rw [mU_1, uM_n (by decide)]; exact h3, by rw [mU_1, uM_n (by decide)]; exact h4, h5, h6⟩
theorem fl_23 {x : mS} : (flM x).1 0 23 = x.1 0 23 := by
  unfold flM; split
  · rw [mU_1, uM_n (by decide), mU_1, uM_n (by decide)]
  · rfl
theorem fl_24 {x : mS} : ¬ (flM x).1 0 24 = 0 := by
  unfold flM; split
  · rw [mU_1, uM_n (by decide), mU_1, uM_s]; decide
  · assumption
theorem fl_25 {x : mS} {q : Nat} (h : (x.1 0 24 = 0 → x.1 0 21 = nI q) ∧ (¬ x.1 0 24 = 0 → x.1 0 25 = nI q)) : (flM x).1 0 25 = nI q := by
  unfold flM; split
  · rename_i c; rw [mU_1, uM_s]; exact h.1 c
  · rename_i c; exact h.2 c
theorem oc_fl {x z : mS} {b : Nat → Int32} {n D : Nat} {R : PS} {r : Int32} (h : ocM x z b n D R r) : (flM z).1 0 25 = nI (psS b n R.2.1) := fl_25 (h.2.2.elim (fun k => ⟨fun _ => k.2.1.2.1, fun h0 => absurd k.2.1.1 h0⟩) (fun k => ⟨fun h0 => absurd h0 k.2.1, fun _ => k.2.2⟩))
theorem oc_no {x : mS} {b : Nat → Int32} {n D p : Nat} {r : Int32} {c : List Int32} (hst : stM x b n (psS b n p)) (hop : x.1 0 23 = nI D) : ocM x (flM x) b n D (false, p, c) r := ⟨flM_m, by rw [fl_23]; exact hop, Or.inr ⟨rfl, fl_24, fl_25 ⟨fun _ => hst.2.1, fun h0 => absurd hst.1 h0⟩⟩⟩
/-- one less is open -/
theorem oc_dn {x y z : mS} {b : Nat → Int32} {n D : Nat} {R R' : PS} {r r' : Int32} (hxy : mF x y) (h : ocM y z b n (D + 1) R r) (h1 : R'.1 = R.1) (h2 : R'.2.1 = R.2.1) (h3 : (∀ s, ruS (eM y) R.2.2 s = r :: s) → ∀ s, ruS (eM y) R'.2.2 s = r' :: s) : ocM x (mU z 0 23 (z.1 0 23 - 1)) b n D R' r' := by
  have he := eM_m hxy
  refine ⟨mF_t hxy (mF_t h.1 (mF_1 (by decide))), ?_, ?_⟩
  · rw [mU_1, uM_s, h.2.1]; exact (pk_sub (a := D + 1) (b := 1) (by omega)).trans rfl
  · rw [h1, h2, ← he]
    rcases h.2.2 with k | k
    · exact Or.inl ⟨k.1, stM_23 k.2.1, h3 k.2.2⟩
    · exact Or.inr ⟨k.1, by rw [mU_1, uM_n (by decide)]; exact k.2.1, by rw [mU_1, uM_n (by decide)]; exact k.2.2⟩
theorem oc_y {x y z : mS} {b : Nat → Int32} {n D p : Nat} {c : List Int32} {r : Int32} (hxy : mF x y) (hop : y.1 0 23 = nI D) (h24 : y.1 0 24 = 0) (hn : nxF y z) (ht : tkM z b n (psS b n p)) (hv : ∀ s, ruS (eM x) c s = r :: s) : ocM x z b n D (true, p, c) r := ⟨mF_t hxy (nxF_m hn), (hn.2 23 (by decide)).trans hop, Or.inl ⟨rfl, ⟨(hn.2 24 (by decide)).trans h24, ht⟩, hv⟩⟩
theorem tn_pos {b : Nat → Int32} {n p : Nat} (h : tcS b n p = 13) : 0 ≤ tnS b n p := by
  have hk := kd_nu.mpr h
  have hl : psS b n p < n := by
    rcases Nat.lt_or_ge (psS b n p) n with k | k
    · exact k
    · rw [tc_end (by omega)] at h; exact absurd h (by decide)
  rw [tnS, if_pos hl]
  rw [tc_lt hl] at h
  unfold tkN
  by_cases hL : isL (b (psS b n p))
  · rw [if_neg (fun k => k.1 hL)]; decide
  by_cases hD : isD (b (psS b n p))
  · rw [if_pos ⟨hL, hD⟩]
    rw [tkC_D hL hD] at h
    by_cases h4 : tkE b n (psS b n p) - psS b n p ≤ 4
    · have he : tkE b n (psS b n p) = enR b n 48 57 (psS b n p) := by rw [tkE, if_neg hL, if_pos hD]
      have h5 := (nu_in (b := b) (q := psS b n p) (tkE b n (psS b n p) - psS b n p) h4 (fun i hi => by
        have := ruP_in (P := fun v => (48 : Int32) ≤ v ∧ v ≤ 57) (b := b) (n := n) (n - psS b n p) (psS b n p) (psS b n p + i) (by omega) (by show _ < enR b n 48 57 (psS b n p); rw [← he]; omega)
        exact this)).1
      simp only [Int32.le_iff_toInt_le, Int32.reduceToInt]; exact h5
    · rw [if_neg h4] at h; exact absurd h (by decide)
  · rw [if_neg (fun k => hD k.2)]; decide
theorem tn_64 {x : mS} {b : Nat → Int32} {n p : Nat} (hst : stM x b n (psS b n p)) (h : tcS b n p = 13) : x.2.toInt32 = tnS b n p := by
  have hl : psS b n p < n := by
    rcases Nat.lt_or_ge (psS b n p) n with k | k
    · exact k
    · rw [tc_end (by omega)] at h; exact absurd h (by decide)
  rw [hst.2.2.2.2.2.1 (kd_nu.mpr h), Int32.toInt32_toInt64, tnS, if_pos hl]
theorem sg_64 {x : mS} {b : Nat → Int32} {n p : Nat} {s : Int32} (hst : stM x b n (psS b n p)) (hs : isS s) (h : tcS b n p = s) : x.2 = s.toInt64 := by
  have k := (kd_sg (b := b) (n := n) (p := p) hs).mpr h
  rw [hst.2.2.2.2.2.2 k.1, k.2]
theorem lt_tc {b : Nat → Int32} {n p : Nat} (h : ¬ tcS b n p = 14) : p < n := by
  rcases Nat.lt_or_ge p n with k | k
  · exact k
  · exact absurd (tc_n p k) h
/-- one turn of a loop -/
theorem oc_lp {x y z : mS} {b : Nat → Int32} {n D : Nat} {R : PS} {f : PF} {v w : Int32} (t u : Int32) (hf : hoS f) (htc : tcS b n R.2.1 = t) (hxy : mF x y) (hvl : ∀ s, ruS (eM x) R.2.2 s = v :: s) (h : ocM y z b n D (f (R.2.1 + 1) []) w) (h1 : ¬ (0 : Int32) ≤ -t) (h2 : ¬ (-6 : Int32) ≤ -t) (h3 : - -t = t) (h4 : ¬ t = 12) (h5 : ¬ t = 16) (hj : jnS t v w = u) : ocM x z b n D ((f (R.2.1 + 1) R.2.2).1, (f (R.2.1 + 1) R.2.2).2.1, (f (R.2.1 + 1) R.2.2).2.2 ++ [-(tcS b n R.2.1)]) u := by
  have e := hf (R.2.1 + 1) R.2.2
  rw [e, htc]
  refine ⟨mF_t hxy h.1, h.2.1, ?_⟩
  rcases h.2.2 with k | k
  · refine Or.inl ⟨k.1, k.2.1, ?_⟩
    rw [eM_m hxy] at k
    rw [← hj]
    exact ru_jn t h1 h2 h3 h4 h5 hvl k.2.2
  · exact Or.inr k

set_option maxHeartbeats 4000000 in
set_option maxRecDepth 100000 in
theorem c_X10_atom5 (l : Launch) (g : jG) (a : Nat → Nat) (x : mS)  (b : Nat → Int32) (n t : Nat) (p : Nat) (hrb : rbM x b n t) (hop : x.1 0 23 = nI 5) (hst : stM x b n (psS b n p)) (hp : p ≤ n) : Ci l g yX10_atom5 cX10_atom5 2 .int 4 91 0 0 (mW g a) [.ref (a 0)] x (fun r z => ocM x z b n 5 (onL (tcS b n) (tnS b n) 0 p []) r) := by
  refine mk_i (by decide +kernel) rfl (fun KK hKl hKg C hin hret => ?_)
  subst hKl; subst hKg
  refine j_lv (lv' := [(0, _)]) rfl ?_
  have e1 : onL (tcS b n) (tnS b n) 0 = oneS (tcS b n) (tnS b n) 0 noS noS := rfl
  refine j_iconst (v := 0) C dX10_atom5_0 rfl ?_
  refine j_istore_n (lv' := [(1, _), (0, _)]) C dX10_atom5_1 rfl (by decide) rfl ?_
  refine j_aload_n C dX10_atom5_2 rfl rfl ?_
  refine j_bipush (v := 45) C dX10_atom5_3 rfl ?_
  refine j_calliv C (c_X10_isSign _ _ _ _ _ (by decide) b n t p (Or.inr ⟨hrb, hst⟩)) dX10_atom5_5 jm_RX10_188 ⟨_, _, _, _, wO mO, rfl, rfl⟩ ⟨by decide, by decide, by decide, by decide⟩ rfl (Nat.le_of_ble_eq_true rfl) (fun r z hz => ?_)
  obtain ⟨hb, hz⟩ := hz; have hz := hz.symm; subst hz
  rcases hb with ⟨rfl, b_5⟩ | ⟨rfl, b_5⟩
  · skip
    have htc : tcS b n p = 45 := b_5.2
    have h14 : ¬ tcS b n p = 14 := by rw [htc]; decide
    have h15 : ¬ tcS b n p = 15 := by rw [htc]; decide
    have hlt : p < n := lt_tc h14
    refine j_if_eq (tgt := 19) C dX10_atom5_8 (by decide) (fun c => absurd c (by decide)) (fun _ => ?_)
    refine j_aload_n C dX10_atom5_11 rfl rfl ?_
    refine j_calliv C (c_X10_opens _ _ _ _  b n t p 5 hrb hst hop (by decide) h14 h15) dX10_atom5_12 jm_RX10_191 ⟨_, _, _, _, wO mO, rfl, rfl⟩ ⟨by decide, by decide, by decide, by decide⟩ rfl (Nat.le_of_ble_eq_true rfl) (fun r_12 z_12 hz_12 => ?_)
    rw [if_pos rfl] at hz_12
    obtain ⟨hr_12, hz_9⟩ := hz_12
    have hr_12 := hr_12.symm; have hz_9 := hz_9.symm; subst hr_12; subst hz_9
    refine j_pop C dX10_atom5_15 rfl ?_
    refine j_goto (tgt := 102) C dX10_atom5_16 (by decide) ?_
    refine j_iload_n C dX10_atom5_102 rfl rfl ?_
    refine hret _ _ _ _ dX10_atom5_103 rfl ?_
    rw [e1]
    rw [one_no (by rw [htc]; decide) (by rw [htc]; decide) (Or.inr rfl)]
    exact oc_no hst hop
  · skip
    refine j_if_eq (tgt := 19) C dX10_atom5_8 (by decide) (fun _ => ?_) (fun c => absurd (by decide) c)
    refine j_aload_n C dX10_atom5_19 rfl rfl ?_
    refine j_bipush (v := 40) C dX10_atom5_20 rfl ?_
    refine j_calliv C (c_X10_isSign _ _ _ _ _ (by decide) b n t p (Or.inr ⟨hrb, hst⟩)) dX10_atom5_22 jm_RX10_188 ⟨_, _, _, _, wO mO, rfl, rfl⟩ ⟨by decide, by decide, by decide, by decide⟩ rfl (Nat.le_of_ble_eq_true rfl) (fun r z hz => ?_)
    obtain ⟨hb, hz⟩ := hz; have hz := hz.symm; subst hz
    rcases hb with ⟨rfl, b_22⟩ | ⟨rfl, b_22⟩
    · skip
      have htc : tcS b n p = 40 := b_22.2
      have h14 : ¬ tcS b n p = 14 := by rw [htc]; decide
      have h15 : ¬ tcS b n p = 15 := by rw [htc]; decide
      have hlt : p < n := lt_tc h14
      refine j_if_eq (tgt := 36) C dX10_atom5_25 (by decide) (fun c => absurd c (by decide)) (fun _ => ?_)
      refine j_aload_n C dX10_atom5_28 rfl rfl ?_
      refine j_calliv C (c_X10_opens _ _ _ _  b n t p 5 hrb hst hop (by decide) h14 h15) dX10_atom5_29 jm_RX10_191 ⟨_, _, _, _, wO mO, rfl, rfl⟩ ⟨by decide, by decide, by decide, by decide⟩ rfl (Nat.le_of_ble_eq_true rfl) (fun r_29 z_29 hz_29 => ?_)
      rw [if_pos rfl] at hz_29
      obtain ⟨hr_29, hz_9⟩ := hz_29
      have hr_29 := hr_29.symm; have hz_9 := hz_9.symm; subst hr_29; subst hz_9
      refine j_pop C dX10_atom5_32 rfl ?_
      refine j_goto (tgt := 102) C dX10_atom5_33 (by decide) ?_
      refine j_iload_n C dX10_atom5_102 rfl rfl ?_
      refine hret _ _ _ _ dX10_atom5_103 rfl ?_
      rw [e1]
      rw [one_no (by rw [htc]; decide) (by rw [htc]; decide) (Or.inr rfl)]
      exact oc_no hst hop
    · skip
      have n45 : ¬ tcS b n p = 45 := fun h => b_5 ⟨hst.1, h⟩
      have n40 : ¬ tcS b n p = 40 := fun h => b_22 ⟨hst.1, h⟩
      refine j_if_eq (tgt := 36) C dX10_atom5_25 (by decide) (fun _ => ?_) (fun c => absurd (by decide) c)
      refine j_aload_n C dX10_atom5_36 rfl rfl ?_
      refine j_get C dX10_atom5_37 jf_RX10_146 (wO mO) rfl ?_
      refine j_if_ne (tgt := 64) C dX10_atom5_40 (by decide) (fun c_40 => ?_) (fun c_40 => ?_)
      · skip
        exact absurd hst.1 c_40
      · skip
        refine j_aload_n C dX10_atom5_43 rfl rfl ?_
        refine j_get C dX10_atom5_44 jf_RX10_129 (wO mO) rfl ?_
        refine j_iconst (v := 2) C dX10_atom5_47 rfl ?_
        refine j_icmp_ne (tgt := 64) C dX10_atom5_48 (by decide) (fun c_48 => ?_) (fun c_48 => ?_)
        · skip
          have n13 : ¬ tcS b n p = 13 := fun h => c_48 (hst.2.2.2.1.trans (kd_nu.mpr h))
          refine j_aload_n C dX10_atom5_64 rfl rfl ?_
          refine j_get C dX10_atom5_65 jf_RX10_146 (wO mO) rfl ?_
          refine j_if_ne (tgt := 98) C dX10_atom5_68 (by decide) (fun c_68 => ?_) (fun c_68 => ?_)
          · skip
            exact absurd hst.1 c_68
          · skip
            refine j_aload_n C dX10_atom5_71 rfl rfl ?_
            refine j_get C dX10_atom5_72 jf_RX10_129 (wO mO) rfl ?_
            refine j_iconst (v := 1) C dX10_atom5_75 rfl ?_
            refine j_icmp_ne (tgt := 98) C dX10_atom5_76 (by decide) (fun c_76 => ?_) (fun c_76 => ?_)
            · skip
              have nnm : ¬ (1 ≤ tcS b n p ∧ tcS b n p ≤ 6) := fun h => c_76 (hst.2.2.2.1.trans (tc_name ⟨h.1, Int32.le_trans h.2 (by decide)⟩))
              refine j_aload_n C dX10_atom5_98 rfl rfl ?_
              refine j_callvv C (c_X10_fail _ _ _ _  ) dX10_atom5_99 jm_RX10_160 ⟨_, _, _, _, wO mO, rfl, rfl⟩ ⟨by decide, by decide, by decide, by decide⟩ rfl (Nat.le_of_ble_eq_true rfl) (fun z_99 hz_99 => ?_)
              have hz_99 := hz_99.symm; subst hz_99
              refine j_iload_n C dX10_atom5_102 rfl rfl ?_
              refine hret _ _ _ _ dX10_atom5_103 rfl ?_
              rw [e1]
              rw [one_no n13 nnm (Or.inl ⟨n45, n40⟩)]
              exact oc_no hst hop
            · skip
              refine j_aload_n C dX10_atom5_79 rfl rfl ?_
              refine j_calliv C (c_X10_name _ _ _ _  b n t p hrb hst) dX10_atom5_80 jm_RX10_195 ⟨_, _, _, _, wO mO, rfl, rfl⟩ ⟨by decide, by decide, by decide, by decide⟩ rfl (Nat.le_of_ble_eq_true rfl) (fun r_80 z_80 hz_80 => ?_)
              skip
              refine j_istore_n (lv' := [(1, _), (0, _)]) C dX10_atom5_83 rfl (by decide) rfl ?_
              refine j_aload_n C dX10_atom5_84 rfl rfl ?_
              refine j_get C dX10_atom5_85 jf_RX10_146 (wO mO) rfl ?_
              refine j_if_ne (tgt := 102) C dX10_atom5_88 (by decide) (fun c_88 => ?_) (fun c_88 => ?_)
              · skip
                have nnm : ¬ (1 ≤ tcS b n p ∧ tcS b n p ≤ 6) := fun h => by
                  rw [if_pos h] at hz_80
                  rw [hz_80.2] at c_88; exact c_88 hst.1
                rw [if_neg nnm] at hz_80
                obtain ⟨hr_80, hz9⟩ := hz_80
                have hz9 := hz9.symm; subst hz9
                refine j_iload_n C dX10_atom5_102 rfl rfl ?_
                refine hret _ _ _ _ dX10_atom5_103 rfl ?_
                rw [e1]
                rw [one_no n13 nnm (Or.inl ⟨n45, n40⟩)]
                exact oc_no hst hop
              · skip
                have hnm : 1 ≤ tcS b n p ∧ tcS b n p ≤ 6 := by
                  by_cases h : 1 ≤ tcS b n p ∧ tcS b n p ≤ 6
                  · exact h
                  · rw [if_neg h] at hz_80
                    rw [hz_80.2] at c_88; exact absurd c_88 fl_24
                rw [if_pos hnm] at hz_80
                obtain ⟨hr_80, hz9⟩ := hz_80
                have hz9 := hz9.symm; have hr_80 := hr_80.symm; subst hz9; subst hr_80
                have h14 : ¬ tcS b n p = 14 := fun h => by rw [h] at hnm; exact absurd hnm.2 (by decide)
                have h15 : ¬ tcS b n p = 15 := fun h => by rw [h] at hnm; exact absurd hnm.2 (by decide)
                refine j_aload_n C dX10_atom5_91 rfl rfl ?_
                refine j_callvv C (c_X10_next _ _ _ _  b n t (tkE b n (psS b n p)) hrb (hst.2.2.2.2.1.trans (congrArg nI (hr_ok h14 h15).1)) (tkE_gt (hr_ok h14 h15).2.1).2) dX10_atom5_92 jm_RX10_163 ⟨_, _, _, _, wO mO, rfl, rfl⟩ ⟨by decide, by decide, by decide, by decide⟩ rfl (Nat.le_of_ble_eq_true rfl) (fun z_92 hz_92 => ?_)
                obtain ⟨hn_92, ht_92⟩ := hz_92
                rw [(hr_ok h14 h15).2.2] at ht_92
                refine j_goto (tgt := 102) C dX10_atom5_95 (by decide) ?_
                refine j_iload_n C dX10_atom5_102 rfl rfl ?_
                refine hret _ _ _ _ dX10_atom5_103 rfl ?_
                rw [e1]
                rw [one_nm hnm]
                exact oc_y mF_r hop hst.1 hn_92 ht_92 (ru_nam hnm)
        · skip
          have hk : kdS b n (psS b n p) = 2 := hst.2.2.2.1.symm.trans c_48
          have htc : tcS b n p = 13 := kd_nu.mp hk
          have h14 : ¬ tcS b n p = 14 := by rw [htc]; decide
          have h15 : ¬ tcS b n p = 15 := by rw [htc]; decide
          refine j_aload_n C dX10_atom5_51 rfl rfl ?_
          refine j_get C dX10_atom5_52 jf_RX10_140 (wO mO) rfl ?_
          refine j_l2i C dX10_atom5_55 ?_
          refine j_istore_n (lv' := [(1, _), (0, _)]) C dX10_atom5_56 rfl (by decide) rfl ?_
          refine j_aload_n C dX10_atom5_57 rfl rfl ?_
          refine j_callvv C (c_X10_next _ _ _ _  b n t (tkE b n (psS b n p)) hrb (hst.2.2.2.2.1.trans (congrArg nI (hr_ok h14 h15).1)) (tkE_gt (hr_ok h14 h15).2.1).2) dX10_atom5_58 jm_RX10_163 ⟨_, _, _, _, wO mO, rfl, rfl⟩ ⟨by decide, by decide, by decide, by decide⟩ rfl (Nat.le_of_ble_eq_true rfl) (fun z_58 hz_58 => ?_)
          obtain ⟨hn_58, ht_58⟩ := hz_58
          rw [(hr_ok h14 h15).2.2] at ht_58
          refine j_goto (tgt := 102) C dX10_atom5_61 (by decide) ?_
          refine j_iload_n C dX10_atom5_102 rfl rfl ?_
          refine hret _ _ _ _ dX10_atom5_103 rfl ?_
          rw [e1]
          rw [one_13 htc]
          exact oc_y mF_r hop hst.1 hn_58 ht_58 (by rw [tn_64 hst htc]; exact ru_num (tn_pos htc))
set_option maxHeartbeats 4000000 in
set_option maxRecDepth 100000 in
theorem c_X10_term5 (l : Launch) (g : jG) (a : Nat → Nat) (x : mS)  (b : Nat → Int32) (n t : Nat) (p : Nat) (hrb : rbM x b n t) (hop : x.1 0 23 = nI 5) (hst : stM x b n (psS b n p)) (hp : p ≤ n) : Ci l g yX10_term5 cX10_term5 2 .int 5 112 0 0 (mW g a) [.ref (a 0)] x (fun r z => ocM x z b n 5 (teL (tcS b n) (tnS b n) 0 p []) r) := by
  refine mk_i (by decide +kernel) rfl (fun KK hKl hKg C hin hret => ?_)
  subst hKl; subst hKg
  refine j_lv (lv' := [(0, _)]) rfl ?_
  have hgf := (lvS_gd (tc := tcS b n) (tn := tnS b n) (N := n) tc_n 0).1
  have hho := (lvS_ho (tc := tcS b n) (tn := tnS b n) 0).1
  refine j_aload_n C dX10_term5_0 rfl rfl ?_
  refine j_calliv C (c_X10_atom5 _ _ _ _  b n t p hrb hop hst hp) dX10_term5_1 jm_RX10_199 ⟨_, _, _, _, wO mO, rfl, rfl⟩ ⟨by decide, by decide, by decide, by decide⟩ rfl (Nat.le_of_ble_eq_true rfl) (fun r_1 z_1 hz_1 => ?_)
  skip
  refine j_istore_n (lv' := [(1, _), (0, _)]) C dX10_term5_4 rfl (by decide) rfl ?_
  have L_5 : ∀ k : Nat, ∀ (i : Nat) (R : PS) (x' : mS) (v : Int32), i ≤ 160 → 160 < i + k → i ≤ R.2.1 → R.2.1 ≤ n → ocM x x' b n 5 R v → (lpS (tcS b n) okM (onL (tcS b n) (tnS b n) 0) 160 ((onL (tcS b n) (tnS b n) 0) p []) = lpS (tcS b n) okM (onL (tcS b n) (tnS b n) 0) (160 - i) R) → J KK (mW (kG KK) a) 0 0 x' [(0, .ref (a 0)), (1, .int v)] 5 [] := by
    intro k
    induction k with
    | zero => intro i R x' v h1 hk hi hR hoc hL; omega
    | succ k ih =>
      intro i R x' v h1 hk hi hR hoc hL
      have hrb' := rbM_m hrb hoc.1
      have hS' := oc_S hrb hoc
      refine j_aload_n C dX10_term5_5 rfl rfl ?_
      refine j_bipush (v := 42) C dX10_term5_6 rfl ?_
      refine j_calliv C (c_X10_isSign _ _ _ _ _ (by decide) b n t R.2.1 hS') dX10_term5_8 jm_RX10_188 ⟨_, _, _, _, wO mO, rfl, rfl⟩ ⟨by decide, by decide, by decide, by decide⟩ rfl (Nat.le_of_ble_eq_true rfl) (fun r z hz => ?_)
      obtain ⟨hb, hz⟩ := hz; have hz := hz.symm; subst hz
      rcases hb with ⟨rfl, b_8⟩ | ⟨rfl, b_8⟩
      · skip
        obtain ⟨hR1, hst', hvl⟩ := oc_1 hoc b_8.1
        have htc : tcS b n R.2.1 = 42 := b_8.2
        have h14 : ¬ tcS b n R.2.1 = 14 := by rw [htc]; decide
        have h15 : ¬ tcS b n R.2.1 = 15 := by rw [htc]; decide
        have hlt : R.2.1 < n := lt_tc h14
        have hn160 := hrb.2.2.2.1
        obtain ⟨m, hm⟩ : ∃ m, 160 - i = m + 1 := ⟨159 - i, by omega⟩
        refine j_if_eq (tgt := 28) C dX10_term5_11 (by decide) (fun c => absurd c (by decide)) (fun _ => ?_)
        refine j_aload_n C dX10_term5_14 rfl rfl ?_
        refine j_callvv C (c_X10_next _ _ _ _  b n t (tkE b n (psS b n R.2.1)) hrb' (hst'.2.2.2.2.1.trans (congrArg nI (hr_ok h14 h15).1)) (tkE_gt (hr_ok h14 h15).2.1).2) dX10_term5_15 jm_RX10_163 ⟨_, _, _, _, wO mO, rfl, rfl⟩ ⟨by decide, by decide, by decide, by decide⟩ rfl (Nat.le_of_ble_eq_true rfl) (fun z_15 hz_15 => ?_)
        obtain ⟨hn_15, ht_15⟩ := hz_15
        rw [(hr_ok h14 h15).2.2] at ht_15
        have hst2 : stM z_15 b n (psS b n (R.2.1 + 1)) := ⟨(hn_15.2 24 (by decide)).trans hst'.1, ht_15⟩
        have hF2 : mF x z_15 := mF_t hoc.1 (nxF_m hn_15)
        have hO2 : z_15.1 0 23 = nI 5 := (hn_15.2 23 (by decide)).trans hoc.2.1
        refine j_iload_n C dX10_term5_18 rfl rfl ?_
        refine j_aload_n C dX10_term5_19 rfl rfl ?_
        refine j_calliv C (c_X10_atom5 _ _ _ _  b n t (R.2.1 + 1) (rbM_m hrb hF2) hO2 hst2 hlt) dX10_term5_20 jm_RX10_199 ⟨_, _, _, _, wO mO, rfl, rfl⟩ ⟨by decide, by decide, by decide, by decide⟩ rfl (Nat.le_of_ble_eq_true rfl) (fun r_20 z_20 hz_20 => ?_)
        skip
        refine j_imul C dX10_term5_23 ?_
        refine j_istore_n (lv' := [(1, _), (0, _)]) C dX10_term5_24 rfl (by decide) rfl ?_
        refine j_goto (tgt := 5) C dX10_term5_25 (by decide) ?_
        refine j_lv (lv' := [(0, _), (1, _)]) rfl ?_
        have hst9 : stM z_15 b n (psS b n (R.2.1 + 1)) := hst2
        exact ih (i + 1) (((onL (tcS b n) (tnS b n) 0) (R.2.1 + 1) R.2.2).1, ((onL (tcS b n) (tnS b n) 0) (R.2.1 + 1) R.2.2).2.1, ((onL (tcS b n) (tnS b n) 0) (R.2.1 + 1) R.2.2).2.2 ++ [-(tcS b n R.2.1)]) _ _ (by omega) (by omega) (by have := hgf (R.2.1 + 1) R.2.2 hlt; show i + 1 ≤ ((onL (tcS b n) (tnS b n) 0) (R.2.1 + 1) R.2.2).2.1; omega) (hgf (R.2.1 + 1) R.2.2 hlt).2.1 (oc_lp (42) _ hho htc hF2 hvl hz_20 (by decide) (by decide) (by decide) (by decide) (by decide) (jn_42)) (by
          rw [hm, lpS_y ⟨hR1, by rw [htc]; rfl⟩] at hL
          rw [hL, show 160 - (i + 1) = m by omega])
      · skip
        have hend : lpS (tcS b n) okM (onL (tcS b n) (tnS b n) 0) (160 - i) R = R := lpS_n (fun h => by
          have h2 := h.2
          simp only [okM, Bool.or_eq_true, beq_iff_eq] at h2
          exact b_8 ⟨oc_0 hoc h.1, h2⟩)
        refine j_if_eq (tgt := 28) C dX10_term5_11 (by decide) (fun _ => ?_) (fun c => absurd (by decide) c)
        refine j_iload_n C dX10_term5_28 rfl rfl ?_
        refine hret _ _ _ _ dX10_term5_29 rfl ?_
        have e9 : teL (tcS b n) (tnS b n) 0 p [] = R := by
          skip
          show lpS (tcS b n) okM (onL (tcS b n) (tnS b n) 0) 160 ((onL (tcS b n) (tnS b n) 0) p []) = R
          rw [hL, hend]
        rw [e9]; exact hoc
  refine j_lv (lv' := [(0, _), (1, _)]) rfl ?_
  have hq0 := hgf p [] hp
  exact L_5 161 0 ((onL (tcS b n) (tnS b n) 0) p []) _ _ (by omega) (by omega) (by omega) hq0.2.1 hz_1 rfl
set_option maxHeartbeats 4000000 in
set_option maxRecDepth 100000 in
theorem c_X10_added5 (l : Launch) (g : jG) (a : Nat → Nat) (x : mS)  (b : Nat → Int32) (n t : Nat) (p : Nat) (hrb : rbM x b n t) (hop : x.1 0 23 = nI 5) (hst : stM x b n (psS b n p)) (hp : p ≤ n) : Ci l g yX10_added5 cX10_added5 4 .int 6 133 0 0 (mW g a) [.ref (a 0)] x (fun r z => ocM x z b n 5 (suL (tcS b n) (tnS b n) 0 p []) r) := by
  refine mk_i (by decide +kernel) rfl (fun KK hKl hKg C hin hret => ?_)
  subst hKl; subst hKg
  refine j_lv (lv' := [(0, _)]) rfl ?_
  have hgf := (lvS_gd (tc := tcS b n) (tn := tnS b n) (N := n) tc_n 0).2.2.2.2.1
  have hho := (lvS_ho (tc := tcS b n) (tn := tnS b n) 0).2.2.2.2.1
  refine j_aload_n C dX10_added5_0 rfl rfl ?_
  refine j_calliv C (c_X10_term5 _ _ _ _  b n t p hrb hop hst hp) dX10_added5_1 jm_RX10_202 ⟨_, _, _, _, wO mO, rfl, rfl⟩ ⟨by decide, by decide, by decide, by decide⟩ rfl (Nat.le_of_ble_eq_true rfl) (fun r_1 z_1 hz_1 => ?_)
  skip
  refine j_istore_n (lv' := [(1, _), (0, _)]) C dX10_added5_4 rfl (by decide) rfl ?_
  have L_5 : ∀ k : Nat, ∀ (i : Nat) (R : PS) (x' : mS) (v : Int32), i ≤ 160 → 160 < i + k → i ≤ R.2.1 → R.2.1 ≤ n → ocM x x' b n 5 R v → (lpS (tcS b n) okA (teL (tcS b n) (tnS b n) 0) 160 ((teL (tcS b n) (tnS b n) 0) p []) = lpS (tcS b n) okA (teL (tcS b n) (tnS b n) 0) (160 - i) R) → J KK (mW (kG KK) a) 0 0 x' [(0, .ref (a 0)), (1, .int v)] 5 [] := by
    intro k
    induction k with
    | zero => intro i R x' v h1 hk hi hR hoc hL; omega
    | succ k ih =>
      intro i R x' v h1 hk hi hR hoc hL
      have hrb' := rbM_m hrb hoc.1
      have hS' := oc_S hrb hoc
      refine j_aload_n C dX10_added5_5 rfl rfl ?_
      refine j_bipush (v := 43) C dX10_added5_6 rfl ?_
      refine j_calliv C (c_X10_isSign _ _ _ _ _ (by decide) b n t R.2.1 hS') dX10_added5_8 jm_RX10_188 ⟨_, _, _, _, wO mO, rfl, rfl⟩ ⟨by decide, by decide, by decide, by decide⟩ rfl (Nat.le_of_ble_eq_true rfl) (fun r z hz => ?_)
      obtain ⟨hb, hz⟩ := hz; have hz := hz.symm; subst hz
      rcases hb with ⟨rfl, b_8⟩ | ⟨rfl, b_8⟩
      · skip
        obtain ⟨hR1, hst', hvl⟩ := oc_1 hoc b_8.1
        have htc : tcS b n R.2.1 = 43 := b_8.2
        have h14 : ¬ tcS b n R.2.1 = 14 := by rw [htc]; decide
        have h15 : ¬ tcS b n R.2.1 = 15 := by rw [htc]; decide
        have hlt : R.2.1 < n := lt_tc h14
        have hn160 := hrb.2.2.2.1
        obtain ⟨m, hm⟩ : ∃ m, 160 - i = m + 1 := ⟨159 - i, by omega⟩
        refine j_if_ne (tgt := 23) C dX10_added5_11 (by decide) (fun _ => ?_) (fun c => absurd c (by decide))
        refine j_aload_n C dX10_added5_23 rfl rfl ?_
        refine j_get C dX10_added5_24 jf_RX10_140 (wO mO) rfl ?_
        refine j_ldc2 C dX10_added5_27 jc_RX10_205 ?_
        refine j_lcmp C dX10_added5_30 ?_
        refine j_if_ne (tgt := 38) C dX10_added5_31 (by decide) (fun c_31 => ?_) (fun c_31 => ?_)
        · rw [lg_cmp_eq] at c_31
          exact absurd (sg_64 hst' (by decide) htc) c_31
        · rw [lg_cmp_eq] at c_31
          skip
          refine j_iconst (v := 1) C dX10_added5_34 rfl ?_
          refine j_goto (tgt := 39) C dX10_added5_35 (by decide) ?_
          refine j_istore_n (lv' := [(2, _), (0, _), (1, _)]) C dX10_added5_39 rfl (by decide) rfl ?_
          refine j_aload_n C dX10_added5_40 rfl rfl ?_
          refine j_callvv C (c_X10_next _ _ _ _  b n t (tkE b n (psS b n R.2.1)) hrb' (hst'.2.2.2.2.1.trans (congrArg nI (hr_ok h14 h15).1)) (tkE_gt (hr_ok h14 h15).2.1).2) dX10_added5_41 jm_RX10_163 ⟨_, _, _, _, wO mO, rfl, rfl⟩ ⟨by decide, by decide, by decide, by decide⟩ rfl (Nat.le_of_ble_eq_true rfl) (fun z_41 hz_41 => ?_)
          obtain ⟨hn_41, ht_41⟩ := hz_41
          rw [(hr_ok h14 h15).2.2] at ht_41
          have hst2 : stM z_41 b n (psS b n (R.2.1 + 1)) := ⟨(hn_41.2 24 (by decide)).trans hst'.1, ht_41⟩
          have hF2 : mF x z_41 := mF_t hoc.1 (nxF_m hn_41)
          have hO2 : z_41.1 0 23 = nI 5 := (hn_41.2 23 (by decide)).trans hoc.2.1
          refine j_aload_n C dX10_added5_44 rfl rfl ?_
          refine j_calliv C (c_X10_term5 _ _ _ _  b n t (R.2.1 + 1) (rbM_m hrb hF2) hO2 hst2 hlt) dX10_added5_45 jm_RX10_202 ⟨_, _, _, _, wO mO, rfl, rfl⟩ ⟨by decide, by decide, by decide, by decide⟩ rfl (Nat.le_of_ble_eq_true rfl) (fun r_45 z_45 hz_45 => ?_)
          skip
          refine j_istore_n (lv' := [(3, _), (2, _), (0, _), (1, _)]) C dX10_added5_48 rfl (by decide) rfl ?_
          refine j_iload_n C dX10_added5_49 rfl rfl ?_
          refine j_if_eq (tgt := 59) C dX10_added5_50 (by decide) (fun c => absurd c (by decide)) (fun _ => ?_)
          refine j_iload_n C dX10_added5_53 rfl rfl ?_
          refine j_iload_n C dX10_added5_54 rfl rfl ?_
          refine j_iadd C dX10_added5_55 ?_
          refine j_goto (tgt := 62) C dX10_added5_56 (by decide) ?_
          refine j_istore_n (lv' := [(1, _), (3, _), (2, _), (0, _)]) C dX10_added5_62 rfl (by decide) rfl ?_
          refine j_goto (tgt := 5) C dX10_added5_63 (by decide) ?_
          refine j_lv (lv' := [(0, _), (1, _)]) rfl ?_
          have hst9 : stM z_41 b n (psS b n (R.2.1 + 1)) := hst2
          exact ih (i + 1) (((teL (tcS b n) (tnS b n) 0) (R.2.1 + 1) R.2.2).1, ((teL (tcS b n) (tnS b n) 0) (R.2.1 + 1) R.2.2).2.1, ((teL (tcS b n) (tnS b n) 0) (R.2.1 + 1) R.2.2).2.2 ++ [-(tcS b n R.2.1)]) _ _ (by omega) (by omega) (by have := hgf (R.2.1 + 1) R.2.2 hlt; show i + 1 ≤ ((teL (tcS b n) (tnS b n) 0) (R.2.1 + 1) R.2.2).2.1; omega) (hgf (R.2.1 + 1) R.2.2 hlt).2.1 (oc_lp (43) _ hho htc hF2 hvl hz_45 (by decide) (by decide) (by decide) (by decide) (by decide) (jn_43)) (by
            rw [hm, lpS_y ⟨hR1, by rw [htc]; rfl⟩] at hL
            rw [hL, show 160 - (i + 1) = m by omega])
      · skip
        refine j_if_ne (tgt := 23) C dX10_added5_11 (by decide) (fun c => absurd (by decide) c) (fun _ => ?_)
        refine j_aload_n C dX10_added5_14 rfl rfl ?_
        refine j_bipush (v := 45) C dX10_added5_15 rfl ?_
        refine j_calliv C (c_X10_isSign _ _ _ _ _ (by decide) b n t R.2.1 hS') dX10_added5_17 jm_RX10_188 ⟨_, _, _, _, wO mO, rfl, rfl⟩ ⟨by decide, by decide, by decide, by decide⟩ rfl (Nat.le_of_ble_eq_true rfl) (fun r z hz => ?_)
        obtain ⟨hb, hz⟩ := hz; have hz := hz.symm; subst hz
        rcases hb with ⟨rfl, b_17⟩ | ⟨rfl, b_17⟩
        · skip
          obtain ⟨hR1, hst', hvl⟩ := oc_1 hoc b_17.1
          have htc : tcS b n R.2.1 = 45 := b_17.2
          have h14 : ¬ tcS b n R.2.1 = 14 := by rw [htc]; decide
          have h15 : ¬ tcS b n R.2.1 = 15 := by rw [htc]; decide
          have hlt : R.2.1 < n := lt_tc h14
          have hn160 := hrb.2.2.2.1
          obtain ⟨m, hm⟩ : ∃ m, 160 - i = m + 1 := ⟨159 - i, by omega⟩
          refine j_if_eq (tgt := 66) C dX10_added5_20 (by decide) (fun c => absurd c (by decide)) (fun _ => ?_)
          refine j_aload_n C dX10_added5_23 rfl rfl ?_
          refine j_get C dX10_added5_24 jf_RX10_140 (wO mO) rfl ?_
          refine j_ldc2 C dX10_added5_27 jc_RX10_205 ?_
          refine j_lcmp C dX10_added5_30 ?_
          refine j_if_ne (tgt := 38) C dX10_added5_31 (by decide) (fun c_31 => ?_) (fun c_31 => ?_)
          · rw [lg_cmp_eq] at c_31
            skip
            refine j_iconst (v := 0) C dX10_added5_38 rfl ?_
            refine j_istore_n (lv' := [(2, _), (0, _), (1, _)]) C dX10_added5_39 rfl (by decide) rfl ?_
            refine j_aload_n C dX10_added5_40 rfl rfl ?_
            refine j_callvv C (c_X10_next _ _ _ _  b n t (tkE b n (psS b n R.2.1)) hrb' (hst'.2.2.2.2.1.trans (congrArg nI (hr_ok h14 h15).1)) (tkE_gt (hr_ok h14 h15).2.1).2) dX10_added5_41 jm_RX10_163 ⟨_, _, _, _, wO mO, rfl, rfl⟩ ⟨by decide, by decide, by decide, by decide⟩ rfl (Nat.le_of_ble_eq_true rfl) (fun z_41 hz_41 => ?_)
            obtain ⟨hn_41, ht_41⟩ := hz_41
            rw [(hr_ok h14 h15).2.2] at ht_41
            have hst2 : stM z_41 b n (psS b n (R.2.1 + 1)) := ⟨(hn_41.2 24 (by decide)).trans hst'.1, ht_41⟩
            have hF2 : mF x z_41 := mF_t hoc.1 (nxF_m hn_41)
            have hO2 : z_41.1 0 23 = nI 5 := (hn_41.2 23 (by decide)).trans hoc.2.1
            refine j_aload_n C dX10_added5_44 rfl rfl ?_
            refine j_calliv C (c_X10_term5 _ _ _ _  b n t (R.2.1 + 1) (rbM_m hrb hF2) hO2 hst2 hlt) dX10_added5_45 jm_RX10_202 ⟨_, _, _, _, wO mO, rfl, rfl⟩ ⟨by decide, by decide, by decide, by decide⟩ rfl (Nat.le_of_ble_eq_true rfl) (fun r_45 z_45 hz_45 => ?_)
            skip
            refine j_istore_n (lv' := [(3, _), (2, _), (0, _), (1, _)]) C dX10_added5_48 rfl (by decide) rfl ?_
            refine j_iload_n C dX10_added5_49 rfl rfl ?_
            refine j_if_eq (tgt := 59) C dX10_added5_50 (by decide) (fun _ => ?_) (fun c => absurd (by decide) c)
            refine j_iload_n C dX10_added5_59 rfl rfl ?_
            refine j_iload_n C dX10_added5_60 rfl rfl ?_
            refine j_isub C dX10_added5_61 ?_
            refine j_istore_n (lv' := [(1, _), (3, _), (2, _), (0, _)]) C dX10_added5_62 rfl (by decide) rfl ?_
            refine j_goto (tgt := 5) C dX10_added5_63 (by decide) ?_
            refine j_lv (lv' := [(0, _), (1, _)]) rfl ?_
            have hst9 : stM z_41 b n (psS b n (R.2.1 + 1)) := hst2
            exact ih (i + 1) (((teL (tcS b n) (tnS b n) 0) (R.2.1 + 1) R.2.2).1, ((teL (tcS b n) (tnS b n) 0) (R.2.1 + 1) R.2.2).2.1, ((teL (tcS b n) (tnS b n) 0) (R.2.1 + 1) R.2.2).2.2 ++ [-(tcS b n R.2.1)]) _ _ (by omega) (by omega) (by have := hgf (R.2.1 + 1) R.2.2 hlt; show i + 1 ≤ ((teL (tcS b n) (tnS b n) 0) (R.2.1 + 1) R.2.2).2.1; omega) (hgf (R.2.1 + 1) R.2.2 hlt).2.1 (oc_lp (45) _ hho htc hF2 hvl hz_45 (by decide) (by decide) (by decide) (by decide) (by decide) (jn_45)) (by
              rw [hm, lpS_y ⟨hR1, by rw [htc]; rfl⟩] at hL
              rw [hL, show 160 - (i + 1) = m by omega])
          · rw [lg_cmp_eq] at c_31
            exact absurd ((sg_64 hst' (by decide) htc).symm.trans c_31) (by decide)
        · skip
          have hend : lpS (tcS b n) okA (teL (tcS b n) (tnS b n) 0) (160 - i) R = R := lpS_n (fun h => by
            have h2 := h.2
            simp only [okA, Bool.or_eq_true, beq_iff_eq] at h2
            rcases h2 with h2 | h2
            · exact b_8 ⟨oc_0 hoc h.1, h2⟩
            · exact b_17 ⟨oc_0 hoc h.1, h2⟩)
          refine j_if_eq (tgt := 66) C dX10_added5_20 (by decide) (fun _ => ?_) (fun c => absurd (by decide) c)
          refine j_iload_n C dX10_added5_66 rfl rfl ?_
          refine hret _ _ _ _ dX10_added5_67 rfl ?_
          have e9 : suL (tcS b n) (tnS b n) 0 p [] = R := by
            skip
            show lpS (tcS b n) okA (teL (tcS b n) (tnS b n) 0) 160 ((teL (tcS b n) (tnS b n) 0) p []) = R
            rw [hL, hend]
          rw [e9]; exact hoc
  refine j_lv (lv' := [(0, _), (1, _)]) rfl ?_
  have hq0 := hgf p [] hp
  exact L_5 161 0 ((teL (tcS b n) (tnS b n) 0) p []) _ _ (by omega) (by omega) (by omega) hq0.2.1 hz_1 rfl
set_option maxHeartbeats 4000000 in
set_option maxRecDepth 100000 in
theorem c_X10_not5 (l : Launch) (g : jG) (a : Nat → Nat) (x : mS)  (b : Nat → Int32) (n t : Nat) (p : Nat) (hrb : rbM x b n t) (hop : x.1 0 23 = nI 5) (hst : stM x b n (psS b n p)) (hp : p ≤ n) : Ci l g yX10_not5 cX10_not5 4 .int 7 156 0 0 (mW g a) [.ref (a 0)] x (fun r z => ocM x z b n 5 (ntL (tcS b n) (tnS b n) 0 p []) r) := by
  refine mk_i (by decide +kernel) rfl (fun KK hKl hKg C hin hret => ?_)
  subst hKl; subst hKg
  refine j_lv (lv' := [(0, _)]) rfl ?_
  have e1 : ntL (tcS b n) (tnS b n) 0 = ntS (tcS b n) 0 noS (suL (tcS b n) (tnS b n) 0) := rfl
  have hgf := (lvS_gd (tc := tcS b n) (tn := tnS b n) (N := n) tc_n 0).2.2.2.1
  have hho := (lvS_ho (tc := tcS b n) (tn := tnS b n) 0).2.2.2.1
  refine j_aload_n C dX10_not5_0 rfl rfl ?_
  refine j_bipush (v := 110) C dX10_not5_1 rfl ?_
  refine j_bipush (v := 111) C dX10_not5_3 rfl ?_
  refine j_bipush (v := 116) C dX10_not5_5 rfl ?_
  refine j_iconst (v := 0) C dX10_not5_7 rfl ?_
  refine j_iconst (v := 0) C dX10_not5_8 rfl ?_
  refine j_iconst (v := 0) C dX10_not5_9 rfl ?_
  refine j_iconst (v := 0) C dX10_not5_10 rfl ?_
  refine j_iconst (v := 0) C dX10_not5_11 rfl ?_
  refine j_calliv C (c_X10_isWord _ _ _ _ _ _ _ _ _ _ _ _ 12 (by decide) rfl rfl rfl rfl rfl rfl rfl rfl b n t p (Or.inr ⟨hrb, hst⟩)) dX10_not5_12 jm_RX10_166 ⟨_, _, _, _, wO mO, rfl, rfl⟩ ⟨by decide, by decide, by decide, by decide⟩ rfl (Nat.le_of_ble_eq_true rfl) (fun r z hz => ?_)
  obtain ⟨hb, hz⟩ := hz; have hz := hz.symm; subst hz
  rcases hb with ⟨rfl, b_12⟩ | ⟨rfl, b_12⟩
  · skip
    have htc : tcS b n p = 12 := b_12.2
    have h14 : ¬ tcS b n p = 14 := by rw [htc]; decide
    have h15 : ¬ tcS b n p = 15 := by rw [htc]; decide
    have hlt : p < n := lt_tc h14
    refine j_if_eq (tgt := 25) C dX10_not5_15 (by decide) (fun c => absurd c (by decide)) (fun _ => ?_)
    refine j_aload_n C dX10_not5_18 rfl rfl ?_
    refine j_calliv C (c_X10_opens _ _ _ _  b n t p 5 hrb hst hop (by decide) h14 h15) dX10_not5_19 jm_RX10_191 ⟨_, _, _, _, wO mO, rfl, rfl⟩ ⟨by decide, by decide, by decide, by decide⟩ rfl (Nat.le_of_ble_eq_true rfl) (fun r_19 z_19 hz_19 => ?_)
    rw [if_pos rfl] at hz_19
    obtain ⟨hr_19, hz_9⟩ := hz_19
    have hr_19 := hr_19.symm; have hz_9 := hz_9.symm; subst hr_19; subst hz_9
    refine j_pop C dX10_not5_22 rfl ?_
    refine j_iconst (v := 0) C dX10_not5_23 rfl ?_
    refine hret _ _ _ _ dX10_not5_24 rfl ?_
    rw [e1]
    rw [nt_0 htc]
    exact oc_no hst hop
  · skip
    have n12 : ¬ tcS b n p = 12 := fun h => b_12 ⟨hst.1, h⟩
    refine j_if_eq (tgt := 25) C dX10_not5_15 (by decide) (fun _ => ?_) (fun c => absurd (by decide) c)
    refine j_aload_n C dX10_not5_25 rfl rfl ?_
    refine j_calliv C (c_X10_added5 _ _ _ _  b n t p hrb hop hst hp) dX10_not5_26 jm_RX10_207 ⟨_, _, _, _, wO mO, rfl, rfl⟩ ⟨by decide, by decide, by decide, by decide⟩ rfl (Nat.le_of_ble_eq_true rfl) (fun r_26 z_26 hz_26 => ?_)
    have hS1 := oc_S hrb hz_26
    have hrb1 := rbM_m hrb hz_26.1
    have hq1 := hgf p [] hp
    refine j_istore_n (lv' := [(1, _), (0, _)]) C dX10_not5_29 rfl (by decide) rfl ?_
    refine j_aload_n C dX10_not5_30 rfl rfl ?_
    refine j_bipush (v := 60) C dX10_not5_31 rfl ?_
    refine j_calliv C (c_X10_isSign _ _ _ _ _ (by decide) b n t ((suL (tcS b n) (tnS b n) 0) p []).2.1 hS1) dX10_not5_33 jm_RX10_188 ⟨_, _, _, _, wO mO, rfl, rfl⟩ ⟨by decide, by decide, by decide, by decide⟩ rfl (Nat.le_of_ble_eq_true rfl) (fun r z hz => ?_)
    obtain ⟨hb, hz⟩ := hz; have hz := hz.symm; subst hz
    rcases hb with ⟨rfl, b_33⟩ | ⟨rfl, b_33⟩
    · skip
      obtain ⟨hR1, hst1, hvl⟩ := oc_1 hz_26 b_33.1
      have htc : tcS b n ((suL (tcS b n) (tnS b n) 0) p []).2.1 = 60 := b_33.2
      have h14 : ¬ tcS b n ((suL (tcS b n) (tnS b n) 0) p []).2.1 = 14 := by rw [htc]; decide
      have h15 : ¬ tcS b n ((suL (tcS b n) (tnS b n) 0) p []).2.1 = 15 := by rw [htc]; decide
      have hlt : ((suL (tcS b n) (tnS b n) 0) p []).2.1 < n := lt_tc h14
      have hw2 := sg_64 hst1 (by decide) htc
      refine j_if_ne (tgt := 50) C dX10_not5_36 (by decide) (fun _ => ?_) (fun c => absurd c (by decide))
      refine j_aload_n C dX10_not5_50 rfl rfl ?_
      refine j_get C dX10_not5_51 jf_RX10_140 (wO mO) rfl ?_
      refine j_ldc2 C dX10_not5_54 jc_RX10_210 ?_
      refine j_lcmp C dX10_not5_57 ?_
      refine j_if_ne (tgt := 65) C dX10_not5_58 (by decide) (fun c_58 => ?_) (fun c_58 => ?_)
      · rw [lg_cmp_eq] at c_58
        exact absurd hw2 c_58
      · rw [lg_cmp_eq] at c_58
        skip
        refine j_iconst (v := 1) C dX10_not5_61 rfl ?_
        refine j_goto (tgt := 66) C dX10_not5_62 (by decide) ?_
        refine j_istore_n (lv' := [(2, _), (1, _), (0, _)]) C dX10_not5_66 rfl (by decide) rfl ?_
        refine j_aload_n C dX10_not5_67 rfl rfl ?_
        refine j_callvv C (c_X10_next _ _ _ _  b n t (tkE b n (psS b n ((suL (tcS b n) (tnS b n) 0) p []).2.1)) hrb1 (hst1.2.2.2.2.1.trans (congrArg nI (hr_ok h14 h15).1)) (tkE_gt (hr_ok h14 h15).2.1).2) dX10_not5_68 jm_RX10_163 ⟨_, _, _, _, wO mO, rfl, rfl⟩ ⟨by decide, by decide, by decide, by decide⟩ rfl (Nat.le_of_ble_eq_true rfl) (fun z_68 hz_68 => ?_)
        obtain ⟨hn_68, ht_68⟩ := hz_68
        rw [(hr_ok h14 h15).2.2] at ht_68
        have hst2 : stM z_68 b n (psS b n (((suL (tcS b n) (tnS b n) 0) p []).2.1 + 1)) := ⟨(hn_68.2 24 (by decide)).trans hst1.1, ht_68⟩
        have hF2 : mF x z_68 := mF_t hz_26.1 (nxF_m hn_68)
        have hO2 : z_68.1 0 23 = nI 5 := (hn_68.2 23 (by decide)).trans hz_26.2.1
        refine j_aload_n C dX10_not5_71 rfl rfl ?_
        refine j_calliv C (c_X10_added5 _ _ _ _  b n t (((suL (tcS b n) (tnS b n) 0) p []).2.1 + 1) (rbM_m hrb hF2) hO2 hst2 hlt) dX10_not5_72 jm_RX10_207 ⟨_, _, _, _, wO mO, rfl, rfl⟩ ⟨by decide, by decide, by decide, by decide⟩ rfl (Nat.le_of_ble_eq_true rfl) (fun r_72 z_72 hz_72 => ?_)
        skip
        refine j_istore_n (lv' := [(3, _), (2, _), (1, _), (0, _)]) C dX10_not5_75 rfl (by decide) rfl ?_
        refine j_iload_n C dX10_not5_76 rfl rfl ?_
        refine j_if_eq (tgt := 88) C dX10_not5_77 (by decide) (fun c => absurd c (by decide)) (fun _ => ?_)
        refine j_iload_n C dX10_not5_80 rfl rfl ?_
        refine j_iload_n C dX10_not5_81 rfl rfl ?_
        refine j_icmp_ge (tgt := 97) C dX10_not5_82 (by decide) (fun c_82 => ?_) (fun c_82 => ?_)
        · skip
          refine j_iconst (v := 0) C dX10_not5_97 rfl ?_
          refine hret _ _ _ _ dX10_not5_98 rfl ?_
          rw [e1]
          rw [nt_cm hho n12 hR1 (Or.inl htc)]
          have e2 := oc_lp (f := (suL (tcS b n) (tnS b n) 0)) (R := ((suL (tcS b n) (tnS b n) 0) p [])) (60) 0 hho htc hF2 hvl hz_72 (by decide) (by decide) (by decide) (by decide) (by decide) (by rw [jn_60, if_neg (by simp only [Int32.lt_iff_toInt_lt, Int32.le_iff_toInt_le, ← Int32.toInt_inj, Int32.reduceToInt] at c_82 ⊢; omega)])
          rw [hho (((suL (tcS b n) (tnS b n) 0) p []).2.1 + 1) ((suL (tcS b n) (tnS b n) 0) p []).2.2] at e2; exact e2
        · skip
          refine j_goto (tgt := 93) C dX10_not5_85 (by decide) ?_
          refine j_iconst (v := 1) C dX10_not5_93 rfl ?_
          refine j_goto (tgt := 98) C dX10_not5_94 (by decide) ?_
          refine hret _ _ _ _ dX10_not5_98 rfl ?_
          rw [e1]
          rw [nt_cm hho n12 hR1 (Or.inl htc)]
          have e2 := oc_lp (f := (suL (tcS b n) (tnS b n) 0)) (R := ((suL (tcS b n) (tnS b n) 0) p [])) (60) 1 hho htc hF2 hvl hz_72 (by decide) (by decide) (by decide) (by decide) (by decide) (by rw [jn_60, if_pos (by simp only [Int32.lt_iff_toInt_lt, Int32.le_iff_toInt_le, ← Int32.toInt_inj, Int32.reduceToInt] at c_82 ⊢; omega)])
          rw [hho (((suL (tcS b n) (tnS b n) 0) p []).2.1 + 1) ((suL (tcS b n) (tnS b n) 0) p []).2.2] at e2; exact e2
    · skip
      refine j_if_ne (tgt := 50) C dX10_not5_36 (by decide) (fun c => absurd (by decide) c) (fun _ => ?_)
      refine j_aload_n C dX10_not5_39 rfl rfl ?_
      refine j_bipush (v := 61) C dX10_not5_40 rfl ?_
      refine j_calliv C (c_X10_isSign _ _ _ _ _ (by decide) b n t ((suL (tcS b n) (tnS b n) 0) p []).2.1 hS1) dX10_not5_42 jm_RX10_188 ⟨_, _, _, _, wO mO, rfl, rfl⟩ ⟨by decide, by decide, by decide, by decide⟩ rfl (Nat.le_of_ble_eq_true rfl) (fun r z hz => ?_)
      obtain ⟨hb, hz⟩ := hz; have hz := hz.symm; subst hz
      rcases hb with ⟨rfl, b_42⟩ | ⟨rfl, b_42⟩
      · skip
        obtain ⟨hR1, hst1, hvl⟩ := oc_1 hz_26 b_42.1
        have htc : tcS b n ((suL (tcS b n) (tnS b n) 0) p []).2.1 = 61 := b_42.2
        have h14 : ¬ tcS b n ((suL (tcS b n) (tnS b n) 0) p []).2.1 = 14 := by rw [htc]; decide
        have h15 : ¬ tcS b n ((suL (tcS b n) (tnS b n) 0) p []).2.1 = 15 := by rw [htc]; decide
        have hlt : ((suL (tcS b n) (tnS b n) 0) p []).2.1 < n := lt_tc h14
        have hw2 := sg_64 hst1 (by decide) htc
        refine j_if_ne (tgt := 50) C dX10_not5_45 (by decide) (fun _ => ?_) (fun c => absurd c (by decide))
        refine j_aload_n C dX10_not5_50 rfl rfl ?_
        refine j_get C dX10_not5_51 jf_RX10_140 (wO mO) rfl ?_
        refine j_ldc2 C dX10_not5_54 jc_RX10_210 ?_
        refine j_lcmp C dX10_not5_57 ?_
        refine j_if_ne (tgt := 65) C dX10_not5_58 (by decide) (fun c_58 => ?_) (fun c_58 => ?_)
        · rw [lg_cmp_eq] at c_58
          skip
          refine j_iconst (v := 0) C dX10_not5_65 rfl ?_
          refine j_istore_n (lv' := [(2, _), (1, _), (0, _)]) C dX10_not5_66 rfl (by decide) rfl ?_
          refine j_aload_n C dX10_not5_67 rfl rfl ?_
          refine j_callvv C (c_X10_next _ _ _ _  b n t (tkE b n (psS b n ((suL (tcS b n) (tnS b n) 0) p []).2.1)) hrb1 (hst1.2.2.2.2.1.trans (congrArg nI (hr_ok h14 h15).1)) (tkE_gt (hr_ok h14 h15).2.1).2) dX10_not5_68 jm_RX10_163 ⟨_, _, _, _, wO mO, rfl, rfl⟩ ⟨by decide, by decide, by decide, by decide⟩ rfl (Nat.le_of_ble_eq_true rfl) (fun z_68 hz_68 => ?_)
          obtain ⟨hn_68, ht_68⟩ := hz_68
          rw [(hr_ok h14 h15).2.2] at ht_68
          have hst2 : stM z_68 b n (psS b n (((suL (tcS b n) (tnS b n) 0) p []).2.1 + 1)) := ⟨(hn_68.2 24 (by decide)).trans hst1.1, ht_68⟩
          have hF2 : mF x z_68 := mF_t hz_26.1 (nxF_m hn_68)
          have hO2 : z_68.1 0 23 = nI 5 := (hn_68.2 23 (by decide)).trans hz_26.2.1
          refine j_aload_n C dX10_not5_71 rfl rfl ?_
          refine j_calliv C (c_X10_added5 _ _ _ _  b n t (((suL (tcS b n) (tnS b n) 0) p []).2.1 + 1) (rbM_m hrb hF2) hO2 hst2 hlt) dX10_not5_72 jm_RX10_207 ⟨_, _, _, _, wO mO, rfl, rfl⟩ ⟨by decide, by decide, by decide, by decide⟩ rfl (Nat.le_of_ble_eq_true rfl) (fun r_72 z_72 hz_72 => ?_)
          skip
          refine j_istore_n (lv' := [(3, _), (2, _), (1, _), (0, _)]) C dX10_not5_75 rfl (by decide) rfl ?_
          refine j_iload_n C dX10_not5_76 rfl rfl ?_
          refine j_if_eq (tgt := 88) C dX10_not5_77 (by decide) (fun _ => ?_) (fun c => absurd (by decide) c)
          refine j_iload_n C dX10_not5_88 rfl rfl ?_
          refine j_iload_n C dX10_not5_89 rfl rfl ?_
          refine j_icmp_ne (tgt := 97) C dX10_not5_90 (by decide) (fun c_90 => ?_) (fun c_90 => ?_)
          · skip
            refine j_iconst (v := 0) C dX10_not5_97 rfl ?_
            refine hret _ _ _ _ dX10_not5_98 rfl ?_
            rw [e1]
            rw [nt_cm hho n12 hR1 (Or.inr htc)]
            have e2 := oc_lp (f := (suL (tcS b n) (tnS b n) 0)) (R := ((suL (tcS b n) (tnS b n) 0) p [])) (61) 0 hho htc hF2 hvl hz_72 (by decide) (by decide) (by decide) (by decide) (by decide) (by rw [jn_61, if_neg c_90])
            rw [hho (((suL (tcS b n) (tnS b n) 0) p []).2.1 + 1) ((suL (tcS b n) (tnS b n) 0) p []).2.2] at e2; exact e2
          · skip
            refine j_iconst (v := 1) C dX10_not5_93 rfl ?_
            refine j_goto (tgt := 98) C dX10_not5_94 (by decide) ?_
            refine hret _ _ _ _ dX10_not5_98 rfl ?_
            rw [e1]
            rw [nt_cm hho n12 hR1 (Or.inr htc)]
            have e2 := oc_lp (f := (suL (tcS b n) (tnS b n) 0)) (R := ((suL (tcS b n) (tnS b n) 0) p [])) (61) 1 hho htc hF2 hvl hz_72 (by decide) (by decide) (by decide) (by decide) (by decide) (by rw [jn_61, if_pos c_90])
            rw [hho (((suL (tcS b n) (tnS b n) 0) p []).2.1 + 1) ((suL (tcS b n) (tnS b n) 0) p []).2.2] at e2; exact e2
        · rw [lg_cmp_eq] at c_58
          exact absurd (hw2.symm.trans c_58) (by decide)
      · skip
        have hno : ((suL (tcS b n) (tnS b n) 0) p []).1 = true → ¬ (tcS b n ((suL (tcS b n) (tnS b n) 0) p []).2.1 = 60 ∨ tcS b n ((suL (tcS b n) (tnS b n) 0) p []).2.1 = 61) := fun h h2 => h2.elim (fun k => b_33 ⟨oc_0 hz_26 h, k⟩) (fun k => b_42 ⟨oc_0 hz_26 h, k⟩)
        refine j_if_ne (tgt := 50) C dX10_not5_45 (by decide) (fun c => absurd (by decide) c) (fun _ => ?_)
        refine j_iload_n C dX10_not5_48 rfl rfl ?_
        refine hret _ _ _ _ dX10_not5_49 rfl ?_
        rw [e1]
        rw [nt_su n12 hno]
        exact hz_26
set_option maxHeartbeats 4000000 in
set_option maxRecDepth 100000 in
theorem c_X10_both5 (l : Launch) (g : jG) (a : Nat → Nat) (x : mS)  (b : Nat → Int32) (n t : Nat) (p : Nat) (hrb : rbM x b n t) (hop : x.1 0 23 = nI 5) (hst : stM x b n (psS b n p)) (hp : p ≤ n) : Ci l g yX10_both5 cX10_both5 3 .int 8 179 0 0 (mW g a) [.ref (a 0)] x (fun r z => ocM x z b n 5 (anL (tcS b n) (tnS b n) 0 p []) r) := by
  refine mk_i (by decide +kernel) rfl (fun KK hKl hKg C hin hret => ?_)
  subst hKl; subst hKg
  refine j_lv (lv' := [(0, _)]) rfl ?_
  have hgf := (lvS_gd (tc := tcS b n) (tn := tnS b n) (N := n) tc_n 0).2.1
  have hho := (lvS_ho (tc := tcS b n) (tn := tnS b n) 0).2.1
  refine j_aload_n C dX10_both5_0 rfl rfl ?_
  refine j_calliv C (c_X10_not5 _ _ _ _  b n t p hrb hop hst hp) dX10_both5_1 jm_RX10_212 ⟨_, _, _, _, wO mO, rfl, rfl⟩ ⟨by decide, by decide, by decide, by decide⟩ rfl (Nat.le_of_ble_eq_true rfl) (fun r_1 z_1 hz_1 => ?_)
  skip
  refine j_istore_n (lv' := [(1, _), (0, _)]) C dX10_both5_4 rfl (by decide) rfl ?_
  have L_5 : ∀ k : Nat, ∀ (i : Nat) (R : PS) (x' : mS) (v : Int32), i ≤ 160 → 160 < i + k → i ≤ R.2.1 → R.2.1 ≤ n → ocM x x' b n 5 R v → (lpS (tcS b n) okN (ntL (tcS b n) (tnS b n) 0) 160 ((ntL (tcS b n) (tnS b n) 0) p []) = lpS (tcS b n) okN (ntL (tcS b n) (tnS b n) 0) (160 - i) R) → J KK (mW (kG KK) a) 0 0 x' [(0, .ref (a 0)), (1, .int v)] 5 [] := by
    intro k
    induction k with
    | zero => intro i R x' v h1 hk hi hR hoc hL; omega
    | succ k ih =>
      intro i R x' v h1 hk hi hR hoc hL
      have hrb' := rbM_m hrb hoc.1
      have hS' := oc_S hrb hoc
      refine j_aload_n C dX10_both5_5 rfl rfl ?_
      refine j_bipush (v := 97) C dX10_both5_6 rfl ?_
      refine j_bipush (v := 110) C dX10_both5_8 rfl ?_
      refine j_bipush (v := 100) C dX10_both5_10 rfl ?_
      refine j_iconst (v := 0) C dX10_both5_12 rfl ?_
      refine j_iconst (v := 0) C dX10_both5_13 rfl ?_
      refine j_iconst (v := 0) C dX10_both5_14 rfl ?_
      refine j_iconst (v := 0) C dX10_both5_15 rfl ?_
      refine j_iconst (v := 0) C dX10_both5_16 rfl ?_
      refine j_calliv C (c_X10_isWord _ _ _ _ _ _ _ _ _ _ _ _ 11 (by decide) rfl rfl rfl rfl rfl rfl rfl rfl b n t R.2.1 hS') dX10_both5_17 jm_RX10_166 ⟨_, _, _, _, wO mO, rfl, rfl⟩ ⟨by decide, by decide, by decide, by decide⟩ rfl (Nat.le_of_ble_eq_true rfl) (fun r z hz => ?_)
      obtain ⟨hb, hz⟩ := hz; have hz := hz.symm; subst hz
      rcases hb with ⟨rfl, b_17⟩ | ⟨rfl, b_17⟩
      · skip
        obtain ⟨hR1, hst', hvl⟩ := oc_1 hoc b_17.1
        have htc : tcS b n R.2.1 = 11 := b_17.2
        have h14 : ¬ tcS b n R.2.1 = 14 := by rw [htc]; decide
        have h15 : ¬ tcS b n R.2.1 = 15 := by rw [htc]; decide
        have hlt : R.2.1 < n := lt_tc h14
        have hn160 := hrb.2.2.2.1
        obtain ⟨m, hm⟩ : ∃ m, 160 - i = m + 1 := ⟨159 - i, by omega⟩
        refine j_if_eq (tgt := 49) C dX10_both5_20 (by decide) (fun c => absurd c (by decide)) (fun _ => ?_)
        refine j_aload_n C dX10_both5_23 rfl rfl ?_
        refine j_callvv C (c_X10_next _ _ _ _  b n t (tkE b n (psS b n R.2.1)) hrb' (hst'.2.2.2.2.1.trans (congrArg nI (hr_ok h14 h15).1)) (tkE_gt (hr_ok h14 h15).2.1).2) dX10_both5_24 jm_RX10_163 ⟨_, _, _, _, wO mO, rfl, rfl⟩ ⟨by decide, by decide, by decide, by decide⟩ rfl (Nat.le_of_ble_eq_true rfl) (fun z_24 hz_24 => ?_)
        obtain ⟨hn_24, ht_24⟩ := hz_24
        rw [(hr_ok h14 h15).2.2] at ht_24
        have hst2 : stM z_24 b n (psS b n (R.2.1 + 1)) := ⟨(hn_24.2 24 (by decide)).trans hst'.1, ht_24⟩
        have hF2 : mF x z_24 := mF_t hoc.1 (nxF_m hn_24)
        have hO2 : z_24.1 0 23 = nI 5 := (hn_24.2 23 (by decide)).trans hoc.2.1
        refine j_aload_n C dX10_both5_27 rfl rfl ?_
        refine j_calliv C (c_X10_not5 _ _ _ _  b n t (R.2.1 + 1) (rbM_m hrb hF2) hO2 hst2 hlt) dX10_both5_28 jm_RX10_212 ⟨_, _, _, _, wO mO, rfl, rfl⟩ ⟨by decide, by decide, by decide, by decide⟩ rfl (Nat.le_of_ble_eq_true rfl) (fun r_28 z_28 hz_28 => ?_)
        skip
        refine j_istore_n (lv' := [(2, _), (0, _), (1, _)]) C dX10_both5_31 rfl (by decide) rfl ?_
        refine j_iload_n C dX10_both5_32 rfl rfl ?_
        refine j_if_eq (tgt := 44) C dX10_both5_33 (by decide) (fun c_33 => ?_) (fun c_33 => ?_)
        · skip
          refine j_iconst (v := 0) C dX10_both5_44 rfl ?_
          refine j_istore_n (lv' := [(1, _), (2, _), (0, _)]) C dX10_both5_45 rfl (by decide) rfl ?_
          refine j_goto (tgt := 5) C dX10_both5_46 (by decide) ?_
          refine j_lv (lv' := [(0, _), (1, _)]) rfl ?_
          have hst9 : stM z_24 b n (psS b n (R.2.1 + 1)) := hst2
          exact ih (i + 1) (((ntL (tcS b n) (tnS b n) 0) (R.2.1 + 1) R.2.2).1, ((ntL (tcS b n) (tnS b n) 0) (R.2.1 + 1) R.2.2).2.1, ((ntL (tcS b n) (tnS b n) 0) (R.2.1 + 1) R.2.2).2.2 ++ [-(tcS b n R.2.1)]) _ _ (by omega) (by omega) (by have := hgf (R.2.1 + 1) R.2.2 hlt; show i + 1 ≤ ((ntL (tcS b n) (tnS b n) 0) (R.2.1 + 1) R.2.2).2.1; omega) (hgf (R.2.1 + 1) R.2.2 hlt).2.1 (oc_lp (11) _ hho htc hF2 hvl hz_28 (by decide) (by decide) (by decide) (by decide) (by decide) (by rw [jn_11]; first | exact if_pos (Or.inl c_33) | exact if_pos (Or.inr c_37))) (by
            rw [hm, lpS_y ⟨hR1, by rw [htc]; rfl⟩] at hL
            rw [hL, show 160 - (i + 1) = m by omega])
        · skip
          refine j_iload_n C dX10_both5_36 rfl rfl ?_
          refine j_if_eq (tgt := 44) C dX10_both5_37 (by decide) (fun c_37 => ?_) (fun c_37 => ?_)
          · skip
            refine j_iconst (v := 0) C dX10_both5_44 rfl ?_
            refine j_istore_n (lv' := [(1, _), (2, _), (0, _)]) C dX10_both5_45 rfl (by decide) rfl ?_
            refine j_goto (tgt := 5) C dX10_both5_46 (by decide) ?_
            refine j_lv (lv' := [(0, _), (1, _)]) rfl ?_
            have hst9 : stM z_24 b n (psS b n (R.2.1 + 1)) := hst2
            exact ih (i + 1) (((ntL (tcS b n) (tnS b n) 0) (R.2.1 + 1) R.2.2).1, ((ntL (tcS b n) (tnS b n) 0) (R.2.1 + 1) R.2.2).2.1, ((ntL (tcS b n) (tnS b n) 0) (R.2.1 + 1) R.2.2).2.2 ++ [-(tcS b n R.2.1)]) _ _ (by omega) (by omega) (by have := hgf (R.2.1 + 1) R.2.2 hlt; show i + 1 ≤ ((ntL (tcS b n) (tnS b n) 0) (R.2.1 + 1) R.2.2).2.1; omega) (hgf (R.2.1 + 1) R.2.2 hlt).2.1 (oc_lp (11) _ hho htc hF2 hvl hz_28 (by decide) (by decide) (by decide) (by decide) (by decide) (by rw [jn_11]; first | exact if_pos (Or.inl c_33) | exact if_pos (Or.inr c_37))) (by
              rw [hm, lpS_y ⟨hR1, by rw [htc]; rfl⟩] at hL
              rw [hL, show 160 - (i + 1) = m by omega])
          · skip
            refine j_iconst (v := 1) C dX10_both5_40 rfl ?_
            refine j_goto (tgt := 45) C dX10_both5_41 (by decide) ?_
            refine j_istore_n (lv' := [(1, _), (2, _), (0, _)]) C dX10_both5_45 rfl (by decide) rfl ?_
            refine j_goto (tgt := 5) C dX10_both5_46 (by decide) ?_
            refine j_lv (lv' := [(0, _), (1, _)]) rfl ?_
            have hst9 : stM z_24 b n (psS b n (R.2.1 + 1)) := hst2
            exact ih (i + 1) (((ntL (tcS b n) (tnS b n) 0) (R.2.1 + 1) R.2.2).1, ((ntL (tcS b n) (tnS b n) 0) (R.2.1 + 1) R.2.2).2.1, ((ntL (tcS b n) (tnS b n) 0) (R.2.1 + 1) R.2.2).2.2 ++ [-(tcS b n R.2.1)]) _ _ (by omega) (by omega) (by have := hgf (R.2.1 + 1) R.2.2 hlt; show i + 1 ≤ ((ntL (tcS b n) (tnS b n) 0) (R.2.1 + 1) R.2.2).2.1; omega) (hgf (R.2.1 + 1) R.2.2 hlt).2.1 (oc_lp (11) _ hho htc hF2 hvl hz_28 (by decide) (by decide) (by decide) (by decide) (by decide) (by rw [jn_11]; first | exact if_neg (fun h => h.elim c_33 c_37))) (by
              rw [hm, lpS_y ⟨hR1, by rw [htc]; rfl⟩] at hL
              rw [hL, show 160 - (i + 1) = m by omega])
      · skip
        have hend : lpS (tcS b n) okN (ntL (tcS b n) (tnS b n) 0) (160 - i) R = R := lpS_n (fun h => by
          have h2 := h.2
          simp only [okN, Bool.or_eq_true, beq_iff_eq] at h2
          exact b_17 ⟨oc_0 hoc h.1, h2⟩)
        refine j_if_eq (tgt := 49) C dX10_both5_20 (by decide) (fun _ => ?_) (fun c => absurd (by decide) c)
        refine j_iload_n C dX10_both5_49 rfl rfl ?_
        refine hret _ _ _ _ dX10_both5_50 rfl ?_
        have e9 : anL (tcS b n) (tnS b n) 0 p [] = R := by
          skip
          show lpS (tcS b n) okN (ntL (tcS b n) (tnS b n) 0) 160 ((ntL (tcS b n) (tnS b n) 0) p []) = R
          rw [hL, hend]
        rw [e9]; exact hoc
  refine j_lv (lv' := [(0, _), (1, _)]) rfl ?_
  have hq0 := hgf p [] hp
  exact L_5 161 0 ((ntL (tcS b n) (tnS b n) 0) p []) _ _ (by omega) (by omega) (by omega) hq0.2.1 hz_1 rfl
set_option maxHeartbeats 4000000 in
set_option maxRecDepth 100000 in
theorem c_X10_either5 (l : Launch) (g : jG) (a : Nat → Nat) (x : mS)  (b : Nat → Int32) (n t : Nat) (p : Nat) (hrb : rbM x b n t) (hop : x.1 0 23 = nI 5) (hst : stM x b n (psS b n p)) (hp : p ≤ n) : Ci l g yX10_either5 cX10_either5 3 .int 9 201 0 0 (mW g a) [.ref (a 0)] x (fun r z => ocM x z b n 5 (orL (tcS b n) (tnS b n) 0 p []) r) := by
  refine mk_i (by decide +kernel) rfl (fun KK hKl hKg C hin hret => ?_)
  subst hKl; subst hKg
  refine j_lv (lv' := [(0, _)]) rfl ?_
  have hgf := (lvS_gd (tc := tcS b n) (tn := tnS b n) (N := n) tc_n 0).2.2.2.2.2
  have hho := (lvS_ho (tc := tcS b n) (tn := tnS b n) 0).2.2.2.2.2
  refine j_aload_n C dX10_either5_0 rfl rfl ?_
  refine j_calliv C (c_X10_both5 _ _ _ _  b n t p hrb hop hst hp) dX10_either5_1 jm_RX10_215 ⟨_, _, _, _, wO mO, rfl, rfl⟩ ⟨by decide, by decide, by decide, by decide⟩ rfl (Nat.le_of_ble_eq_true rfl) (fun r_1 z_1 hz_1 => ?_)
  skip
  refine j_istore_n (lv' := [(1, _), (0, _)]) C dX10_either5_4 rfl (by decide) rfl ?_
  have L_5 : ∀ k : Nat, ∀ (i : Nat) (R : PS) (x' : mS) (v : Int32), i ≤ 160 → 160 < i + k → i ≤ R.2.1 → R.2.1 ≤ n → ocM x x' b n 5 R v → (lpS (tcS b n) okO (anL (tcS b n) (tnS b n) 0) 160 ((anL (tcS b n) (tnS b n) 0) p []) = lpS (tcS b n) okO (anL (tcS b n) (tnS b n) 0) (160 - i) R) → J KK (mW (kG KK) a) 0 0 x' [(0, .ref (a 0)), (1, .int v)] 5 [] := by
    intro k
    induction k with
    | zero => intro i R x' v h1 hk hi hR hoc hL; omega
    | succ k ih =>
      intro i R x' v h1 hk hi hR hoc hL
      have hrb' := rbM_m hrb hoc.1
      have hS' := oc_S hrb hoc
      refine j_aload_n C dX10_either5_5 rfl rfl ?_
      refine j_bipush (v := 111) C dX10_either5_6 rfl ?_
      refine j_bipush (v := 114) C dX10_either5_8 rfl ?_
      refine j_iconst (v := 0) C dX10_either5_10 rfl ?_
      refine j_iconst (v := 0) C dX10_either5_11 rfl ?_
      refine j_iconst (v := 0) C dX10_either5_12 rfl ?_
      refine j_iconst (v := 0) C dX10_either5_13 rfl ?_
      refine j_iconst (v := 0) C dX10_either5_14 rfl ?_
      refine j_iconst (v := 0) C dX10_either5_15 rfl ?_
      refine j_calliv C (c_X10_isWord _ _ _ _ _ _ _ _ _ _ _ _ 10 (by decide) rfl rfl rfl rfl rfl rfl rfl rfl b n t R.2.1 hS') dX10_either5_16 jm_RX10_166 ⟨_, _, _, _, wO mO, rfl, rfl⟩ ⟨by decide, by decide, by decide, by decide⟩ rfl (Nat.le_of_ble_eq_true rfl) (fun r z hz => ?_)
      obtain ⟨hb, hz⟩ := hz; have hz := hz.symm; subst hz
      rcases hb with ⟨rfl, b_16⟩ | ⟨rfl, b_16⟩
      · skip
        obtain ⟨hR1, hst', hvl⟩ := oc_1 hoc b_16.1
        have htc : tcS b n R.2.1 = 10 := b_16.2
        have h14 : ¬ tcS b n R.2.1 = 14 := by rw [htc]; decide
        have h15 : ¬ tcS b n R.2.1 = 15 := by rw [htc]; decide
        have hlt : R.2.1 < n := lt_tc h14
        have hn160 := hrb.2.2.2.1
        obtain ⟨m, hm⟩ : ∃ m, 160 - i = m + 1 := ⟨159 - i, by omega⟩
        refine j_if_eq (tgt := 48) C dX10_either5_19 (by decide) (fun c => absurd c (by decide)) (fun _ => ?_)
        refine j_aload_n C dX10_either5_22 rfl rfl ?_
        refine j_callvv C (c_X10_next _ _ _ _  b n t (tkE b n (psS b n R.2.1)) hrb' (hst'.2.2.2.2.1.trans (congrArg nI (hr_ok h14 h15).1)) (tkE_gt (hr_ok h14 h15).2.1).2) dX10_either5_23 jm_RX10_163 ⟨_, _, _, _, wO mO, rfl, rfl⟩ ⟨by decide, by decide, by decide, by decide⟩ rfl (Nat.le_of_ble_eq_true rfl) (fun z_23 hz_23 => ?_)
        obtain ⟨hn_23, ht_23⟩ := hz_23
        rw [(hr_ok h14 h15).2.2] at ht_23
        have hst2 : stM z_23 b n (psS b n (R.2.1 + 1)) := ⟨(hn_23.2 24 (by decide)).trans hst'.1, ht_23⟩
        have hF2 : mF x z_23 := mF_t hoc.1 (nxF_m hn_23)
        have hO2 : z_23.1 0 23 = nI 5 := (hn_23.2 23 (by decide)).trans hoc.2.1
        refine j_aload_n C dX10_either5_26 rfl rfl ?_
        refine j_calliv C (c_X10_both5 _ _ _ _  b n t (R.2.1 + 1) (rbM_m hrb hF2) hO2 hst2 hlt) dX10_either5_27 jm_RX10_215 ⟨_, _, _, _, wO mO, rfl, rfl⟩ ⟨by decide, by decide, by decide, by decide⟩ rfl (Nat.le_of_ble_eq_true rfl) (fun r_27 z_27 hz_27 => ?_)
        skip
        refine j_istore_n (lv' := [(2, _), (0, _), (1, _)]) C dX10_either5_30 rfl (by decide) rfl ?_
        refine j_iload_n C dX10_either5_31 rfl rfl ?_
        refine j_if_ne (tgt := 39) C dX10_either5_32 (by decide) (fun c_32 => ?_) (fun c_32 => ?_)
        · skip
          refine j_iconst (v := 1) C dX10_either5_39 rfl ?_
          refine j_goto (tgt := 44) C dX10_either5_40 (by decide) ?_
          refine j_istore_n (lv' := [(1, _), (2, _), (0, _)]) C dX10_either5_44 rfl (by decide) rfl ?_
          refine j_goto (tgt := 5) C dX10_either5_45 (by decide) ?_
          refine j_lv (lv' := [(0, _), (1, _)]) rfl ?_
          have hst9 : stM z_23 b n (psS b n (R.2.1 + 1)) := hst2
          exact ih (i + 1) (((anL (tcS b n) (tnS b n) 0) (R.2.1 + 1) R.2.2).1, ((anL (tcS b n) (tnS b n) 0) (R.2.1 + 1) R.2.2).2.1, ((anL (tcS b n) (tnS b n) 0) (R.2.1 + 1) R.2.2).2.2 ++ [-(tcS b n R.2.1)]) _ _ (by omega) (by omega) (by have := hgf (R.2.1 + 1) R.2.2 hlt; show i + 1 ≤ ((anL (tcS b n) (tnS b n) 0) (R.2.1 + 1) R.2.2).2.1; omega) (hgf (R.2.1 + 1) R.2.2 hlt).2.1 (oc_lp (10) _ hho htc hF2 hvl hz_27 (by decide) (by decide) (by decide) (by decide) (by decide) (by rw [jn_10]; first | exact if_neg (fun h => c_32 h.1) | exact if_neg (fun h => c_36 h.2))) (by
            rw [hm, lpS_y ⟨hR1, by rw [htc]; rfl⟩] at hL
            rw [hL, show 160 - (i + 1) = m by omega])
        · skip
          refine j_iload_n C dX10_either5_35 rfl rfl ?_
          refine j_if_eq (tgt := 43) C dX10_either5_36 (by decide) (fun c_36 => ?_) (fun c_36 => ?_)
          · skip
            refine j_iconst (v := 0) C dX10_either5_43 rfl ?_
            refine j_istore_n (lv' := [(1, _), (2, _), (0, _)]) C dX10_either5_44 rfl (by decide) rfl ?_
            refine j_goto (tgt := 5) C dX10_either5_45 (by decide) ?_
            refine j_lv (lv' := [(0, _), (1, _)]) rfl ?_
            have hst9 : stM z_23 b n (psS b n (R.2.1 + 1)) := hst2
            exact ih (i + 1) (((anL (tcS b n) (tnS b n) 0) (R.2.1 + 1) R.2.2).1, ((anL (tcS b n) (tnS b n) 0) (R.2.1 + 1) R.2.2).2.1, ((anL (tcS b n) (tnS b n) 0) (R.2.1 + 1) R.2.2).2.2 ++ [-(tcS b n R.2.1)]) _ _ (by omega) (by omega) (by have := hgf (R.2.1 + 1) R.2.2 hlt; show i + 1 ≤ ((anL (tcS b n) (tnS b n) 0) (R.2.1 + 1) R.2.2).2.1; omega) (hgf (R.2.1 + 1) R.2.2 hlt).2.1 (oc_lp (10) _ hho htc hF2 hvl hz_27 (by decide) (by decide) (by decide) (by decide) (by decide) (by rw [jn_10]; exact if_pos ⟨c_32, c_36⟩)) (by
              rw [hm, lpS_y ⟨hR1, by rw [htc]; rfl⟩] at hL
              rw [hL, show 160 - (i + 1) = m by omega])
          · skip
            refine j_iconst (v := 1) C dX10_either5_39 rfl ?_
            refine j_goto (tgt := 44) C dX10_either5_40 (by decide) ?_
            refine j_istore_n (lv' := [(1, _), (2, _), (0, _)]) C dX10_either5_44 rfl (by decide) rfl ?_
            refine j_goto (tgt := 5) C dX10_either5_45 (by decide) ?_
            refine j_lv (lv' := [(0, _), (1, _)]) rfl ?_
            have hst9 : stM z_23 b n (psS b n (R.2.1 + 1)) := hst2
            exact ih (i + 1) (((anL (tcS b n) (tnS b n) 0) (R.2.1 + 1) R.2.2).1, ((anL (tcS b n) (tnS b n) 0) (R.2.1 + 1) R.2.2).2.1, ((anL (tcS b n) (tnS b n) 0) (R.2.1 + 1) R.2.2).2.2 ++ [-(tcS b n R.2.1)]) _ _ (by omega) (by omega) (by have := hgf (R.2.1 + 1) R.2.2 hlt; show i + 1 ≤ ((anL (tcS b n) (tnS b n) 0) (R.2.1 + 1) R.2.2).2.1; omega) (hgf (R.2.1 + 1) R.2.2 hlt).2.1 (oc_lp (10) _ hho htc hF2 hvl hz_27 (by decide) (by decide) (by decide) (by decide) (by decide) (by rw [jn_10]; first | exact if_neg (fun h => c_32 h.1) | exact if_neg (fun h => c_36 h.2))) (by
              rw [hm, lpS_y ⟨hR1, by rw [htc]; rfl⟩] at hL
              rw [hL, show 160 - (i + 1) = m by omega])
      · skip
        have hend : lpS (tcS b n) okO (anL (tcS b n) (tnS b n) 0) (160 - i) R = R := lpS_n (fun h => by
          have h2 := h.2
          simp only [okO, Bool.or_eq_true, beq_iff_eq] at h2
          exact b_16 ⟨oc_0 hoc h.1, h2⟩)
        refine j_if_eq (tgt := 48) C dX10_either5_19 (by decide) (fun _ => ?_) (fun c => absurd (by decide) c)
        refine j_iload_n C dX10_either5_48 rfl rfl ?_
        refine hret _ _ _ _ dX10_either5_49 rfl ?_
        have e9 : orL (tcS b n) (tnS b n) 0 p [] = R := by
          rw [orL_e]
          show lpS (tcS b n) okO (anL (tcS b n) (tnS b n) 0) 160 ((anL (tcS b n) (tnS b n) 0) p []) = R
          rw [hL, hend]
        rw [e9]; exact hoc
  refine j_lv (lv' := [(0, _), (1, _)]) rfl ?_
  have hq0 := hgf p [] hp
  exact L_5 161 0 ((anL (tcS b n) (tnS b n) 0) p []) _ _ (by omega) (by omega) (by omega) hq0.2.1 hz_1 rfl
