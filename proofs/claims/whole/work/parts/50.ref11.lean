/-! THE REFERENCE: what is tried and laid back -/
/-- the cells of which the rows of days don't tell, but row 6 -/
def hgF (x z : mS) (i : Nat) : Prop := (∀ k, k ≠ 0 → k ≠ 6 → k ≠ 7 → k ≠ 8 → z.1 k = x.1 k) ∧ (∀ j, (j < 11 ∨ 25 < j) → z.1 0 j = x.1 0 j) ∧ ∀ j, j ≠ 4 * i + 1 → j ≠ 4 * i + 2 → z.1 6 j = x.1 6 j
theorem hgF_r {x : mS} {i : Nat} : hgF x x i := ⟨fun _ _ _ _ _ => rfl, fun _ _ => rfl, fun _ _ _ => rfl⟩
theorem hgF_k {x y z : mS} {i : Nat} (h : hgF x y i) (h2 : mK y z) : hgF x z i := ⟨fun k a b c d => (h2.1 k a c d).trans (h.1 k a b c d), fun j hj => (h2.2 j hj).trans (h.2.1 j hj), fun j a b => (congrFun (h2.1 6 (by decide) (by decide) (by decide)) j).trans (h.2.2 j a b)⟩
theorem hgF_s {x y : mS} {i c : Nat} {v : Int32} (h : hgF x y i) (hc : c = 4 * i + 1 ∨ c = 4 * i + 2) : hgF x (mU y 6 c v) i := ⟨fun k a b c d => by rw [mU_1, uM_ne b]; exact h.1 k a b c d, fun j hj => by rw [mU_1, uM_ne (by decide)]; exact h.2.1 j hj, fun j a b => by rw [mU_1, uM_n (by omega)]; exact h.2.2 j a b⟩
theorem hgF_in {x z : mS} {m t ru i : Nat} {B : Nat → Nat → Int32} {N : Nat → Nat} (hX : inM x m t ru B N) (h : hgF x z i) (hp : 0 ≤ z.1 6 (4 * i + 1) ∧ z.1 6 (4 * i + 1) ≤ 19) : inM z m t ru B N := by
  obtain ⟨⟨a1, a2⟩, a3, a4, a5, a6, a7⟩ := hX
  have e4 : z.1 4 = x.1 4 := h.1 4 (by decide) (by decide) (by decide) (by decide)
  refine ⟨⟨by rw [h.2.1 10 (by decide)]; exact a1, a2⟩, by rw [h.2.1 3 (by decide)]; exact a3, by rw [h.2.1 4 (by decide)]; exact a4, by unfold wkR; rw [e4]; exact a5, fun j hj => tgM_h (a6 j hj) (h.1 1 (by decide) (by decide) (by decide) (by decide)) (h.1 2 (by decide) (by decide) (by decide) (by decide)), fun j hj => ?_⟩
  by_cases e : j = i
  · subst e; exact hp
  · rw [h.2.2 (4 * j + 1) (by omega) (by omega)]; exact a7 j hj
theorem hg_lk {T : Nat → List Int32} {x y : mS} {i k : Nat} (h : hgF x y i) (h1 : y.1 6 (4 * i + 1) = nI (k / 5)) (h2 : y.1 6 (4 * i + 2) = nI (k % 5)) : paS (lkS T (gV y i) (y.1 4 0) (y.1 4 0) (y.1 4 1) (y.1 4 2)) 30 = hgV T (gV x i) (x.1 4 0) (x.1 4 1) (x.1 4 2) k := by
  have e4 : y.1 4 = x.1 4 := h.1 4 (by decide) (by decide) (by decide) (by decide)
  have e5 : y.1 5 = x.1 5 := h.1 5 (by decide) (by decide) (by decide) (by decide)
  unfold hgV
  rw [e4, lkS_c (r' := hgR (gV x i) k)]
  intro j hj
  have hc : j = 0 ∨ j = 1 ∨ j = 2 ∨ j = 3 ∨ j = 4 := by omega
  rcases hc with rfl | rfl | rfl | rfl | rfl
  · show y.1 5 i = x.1 5 i; rw [e5]
  · show y.1 6 (4 * i + 0) = x.1 6 (4 * i + 0); exact h.2.2 _ (by omega) (by omega)
  · exact h1
  · exact h2
  · show y.1 6 (4 * i + 3) = x.1 6 (4 * i + 3); exact h.2.2 _ (by omega) (by omega)
theorem hg_x {v : Nat → Int64} {n : Nat} (h : ¬ n = 0) : hgW v n = nI (10 * (amS v n / 5) + amS v n % 5) := by rw [hgW, if_neg h]
theorem nI_no1 {n : Nat} (h : n < 2147483648) : ¬ nI n = -1 := fun e => by
  have := congrArg Int32.toInt e
  rw [nI_toInt h] at this
  have e2 : (-1 : Int32).toInt = -1 := rfl
  omega
-- WALK
/-- what the reference has found so far, what the class would have -/
def wkL (st : Int64 × Int64 × Int32) (F : Int32) (Mo P : Int64) : Prop := (F = -1 ∧ Mo = 0 ∧ P = 0 ∧ st = (-4611686018427387904, 0, 0)) ∨ (F = st.2.2 ∧ Mo = st.1 ∧ P = st.2.1 ∧ ¬ F = -1)
theorem wkW_no {T : Nat → List Int32} {r : Nat → Int32} {f i : Nat} (hi : i / 2 - f < 20) : (-4611686018427387904 : Int64) < wkW T r f i := by
  obtain ⟨P, hP, e⟩ := paS_in (lk := lkS T r (nI f) (nI f) (nI (i / 2)) (nI (i % 2))) (n := 30) (fun _ => lkS_in)
  have e2 : wkW T r f i = lN P - lN (1000000 * (i / 2 - f + 1)) := by
    unfold wkW wkV
    rw [e, nI_l (by omega)]
    exact congrArg (lN P - ·) (lN_mul 1000000 _)
  rw [e2, Int64.lt_iff_toInt_lt, Int64.toInt_sub, lN_toInt (by omega), lN_toInt (by omega), Int.bmod_eq_of_le (by omega) (by omega)]
  have : (-4611686018427387904 : Int64).toInt = -4611686018427387904 := rfl
  omega
theorem wk_y {T : Nat → List Int32} {r : Nat → Int32} {f i : Nat} {st : Int64 × Int64 × Int32} {F : Int32} {Mo P : Int64} (h : wkL st F Mo P) (hi : i / 2 - f < 20) (hf : f < 20) (hi2 : i < 40) (hc : F = -1 ∨ Mo < wkW T r f i) : wkL (wkT T r f i st) (nI (1000 * f + 10 * (i / 2) + i % 2)) (wkW T r f i) (wkV T r f i) := by
  have hlt : st.1 < wkW T r f i := by
    rcases h with ⟨_, _, _, e⟩ | ⟨_, e, _, hn⟩
    · rw [e]; exact wkW_no hi
    · rcases hc with k | k
      · exact absurd k hn
      · rw [← e]; exact k
  rw [wkT_p hlt]
  exact Or.inr ⟨rfl, rfl, rfl, nI_no1 (by omega)⟩
theorem wk_n {T : Nat → List Int32} {r : Nat → Int32} {f i : Nat} {st : Int64 × Int64 × Int32} {F : Int32} {Mo P : Int64} (h : wkL st F Mo P) (hc : ¬ F = -1) (hc2 : ¬ Mo < wkW T r f i) : wkL (wkT T r f i st) F Mo P := by
  rcases h with ⟨e, _⟩ | ⟨e1, e, e2, hn⟩
  · exact absurd e hc
  · rw [wkT_n (by rw [← e]; exact hc2)]; exact Or.inr ⟨e1, e, e2, hn⟩
/-- row 4 is another, 9 too -/
def wkF (x z : mS) : Prop := (∀ k, k ≠ 0 → k ≠ 4 → k ≠ 7 → k ≠ 8 → k ≠ 9 → z.1 k = x.1 k) ∧ (∀ j, (j < 11 ∨ 25 < j) → z.1 0 j = x.1 0 j) ∧ (∀ j, j < 3 → z.1 9 j = x.1 4 j) ∧ ∀ j, 3 ≤ j → z.1 4 j = x.1 4 j
theorem wkF_k {x y z : mS} (h : wkF x y) (h2 : mK y z) : wkF x z := ⟨fun k a b c d e => (h2.1 k a c d).trans (h.1 k a b c d e), fun j hj => (h2.2 j hj).trans (h.2.1 j hj), fun j hj => (congrFun (h2.1 9 (by decide) (by decide) (by decide)) j).trans (h.2.2.1 j hj), fun j hj => (congrFun (h2.1 4 (by decide) (by decide) (by decide)) j).trans (h.2.2.2 j hj)⟩
theorem wkF_s {x y : mS} {c : Nat} {v : Int32} (h : wkF x y) (hc : c < 3) : wkF x (mU y 4 c v) := ⟨fun k a b c d e => by rw [mU_1, uM_ne b]; exact h.1 k a b c d e, fun j hj => by rw [mU_1, uM_ne (by decide)]; exact h.2.1 j hj, fun j hj => by rw [mU_1, uM_ne (by decide)]; exact h.2.2.1 j hj, fun j hj => by rw [mU_1, uM_n (by omega)]; exact h.2.2.2 j hj⟩
theorem wkF_in {x z : mS} {m t ru : Nat} {B : Nat → Nat → Int32} {N : Nat → Nat} (hX : inM x m t ru B N) (h : wkF x z) (hp : wkR z) : inM z m t ru B N := by
  obtain ⟨⟨a1, a2⟩, a3, a4, a5, a6, a7⟩ := hX
  have e6 : z.1 6 = x.1 6 := h.1 6 (by decide) (by decide) (by decide) (by decide) (by decide)
  exact ⟨⟨by rw [h.2.1 10 (by decide)]; exact a1, a2⟩, by rw [h.2.1 3 (by decide)]; exact a3, by rw [h.2.1 4 (by decide)]; exact a4, hp, fun j hj => tgM_h (a6 j hj) (h.1 1 (by decide) (by decide) (by decide) (by decide) (by decide)) (h.1 2 (by decide) (by decide) (by decide) (by decide) (by decide)), fun j hj => by rw [e6]; exact a7 j hj⟩
theorem wkF_g {x z : mS} {i : Nat} (h : wkF x z) : gV z i = gV x i := by
  show (fun j => if j = 0 then z.1 5 i else z.1 6 (4 * i + (j - 1))) = _
  rw [h.1 5 (by decide) (by decide) (by decide) (by decide) (by decide), h.1 6 (by decide) (by decide) (by decide) (by decide) (by decide)]
theorem nI_19 {n : Nat} (h : n < 20) : 0 ≤ nI n ∧ nI n ≤ 19 := by
  have e : (nI n).toInt = n := nI_toInt (by omega)
  simp only [Int32.le_iff_toInt_le, Int32.reduceToInt, e]; omega
theorem wk_vw {T : Nat → List Int32} {r : Nat → Int32} {f t s : Nat} (hft : f ≤ t) (ht : t < 20) (hs : s < 2) : paS (lkS T r (nI f) (nI f) (nI t) (nI s)) 30 = wkV T r f (2 * t + s) ∧ wkV T r f (2 * t + s) - 1000000 * (nI t - nI f + 1).toInt64 = wkW T r f (2 * t + s) ∧ (1000 : Int32) * nI f + 10 * nI t + nI s = nI (1000 * f + 10 * ((2 * t + s) / 2) + (2 * t + s) % 2) := by
  have e1 : (2 * t + s) / 2 = t := by omega
  have e2 : (2 * t + s) % 2 = s := by omega
  refine ⟨by rw [wkV, e1, e2], by rw [wkW, e1, pk_sub hft, nI_1], ?_⟩
  rw [e1, e2, show (1000 : Int32) * nI f = nI (1000 * f) from pk_mul 1000 f, show (10 : Int32) * nI t = nI (10 * t) from pk_mul 10 t, nI_add, nI_add]
def mKw (x z : mS) : Prop := (∀ k, k ≠ 0 → k ≠ 7 → k ≠ 8 → k ≠ 9 → z.1 k = x.1 k) ∧ ∀ j, (j < 11 ∨ 25 < j) → z.1 0 j = x.1 0 j
theorem mKw_r {x : mS} : mKw x x := ⟨fun _ _ _ _ _ => rfl, fun _ _ => rfl⟩
-- TOLD
/-- one thing j of glove i is laid otherwise -/
def ltF (x z : mS) (j i : Nat) : Prop := (∀ k, k ≠ 0 → k ≠ 5 → k ≠ 6 → k ≠ 7 → k ≠ 8 → z.1 k = x.1 k) ∧ (∀ c, ¬ (j < 7 ∧ c = 4 * i + (j - 3)) → z.1 6 c = x.1 6 c) ∧ (∀ c, ¬ (j = 7 ∧ c = i) → z.1 5 c = x.1 5 c) ∧ ∀ c, (c < 11 ∨ 25 < c) → ¬ (j = 9 ∧ c = 4) → z.1 0 c = x.1 0 c
theorem ltF_r {x : mS} {j i : Nat} : ltF x x j i := ⟨fun _ _ _ _ _ _ => rfl, fun _ _ => rfl, fun _ _ => rfl, fun _ _ _ => rfl⟩
theorem ltF_k {x y z : mS} {j i : Nat} (h : ltF x y j i) (h2 : mK y z) : ltF x z j i := ⟨fun k a b c d e => (h2.1 k a d e).trans (h.1 k a b c d e), fun c hc => (congrFun (h2.1 6 (by decide) (by decide) (by decide)) c).trans (h.2.1 c hc), fun c hc => (congrFun (h2.1 5 (by decide) (by decide) (by decide)) c).trans (h.2.2.1 c hc), fun c hc h3 => (h2.2 c hc).trans (h.2.2.2 c hc h3)⟩
theorem ltF_l {x y : mS} {j i : Nat} {v : Int32} (h : ltF x y j i) (hj : j = 3 ∨ j = 4 ∨ j = 5 ∨ j = 7 ∨ j = 9) : ltF x (lyX y j i v) j i := by
  obtain ⟨h1, h2, h3, h4⟩ := h
  unfold lyX
  rcases hj with rfl | rfl | rfl | rfl | rfl
  · rw [if_neg (by decide), if_pos (by decide)]
    exact ⟨fun k a b c d e => by rw [mU_1, uM_ne c]; exact h1 k a b c d e, fun c hc => by rw [mU_1, uM_n (by omega)]; exact h2 c hc, fun c hc => by rw [mU_1, uM_ne (by decide)]; exact h3 c hc, fun c hc k => by rw [mU_1, uM_ne (by decide)]; exact h4 c hc k⟩
  · rw [if_neg (by decide), if_pos (by decide)]
    exact ⟨fun k a b c d e => by rw [mU_1, uM_ne c]; exact h1 k a b c d e, fun c hc => by rw [mU_1, uM_n (by omega)]; exact h2 c hc, fun c hc => by rw [mU_1, uM_ne (by decide)]; exact h3 c hc, fun c hc k => by rw [mU_1, uM_ne (by decide)]; exact h4 c hc k⟩
  · rw [if_neg (by decide), if_pos (by decide)]
    exact ⟨fun k a b c d e => by rw [mU_1, uM_ne c]; exact h1 k a b c d e, fun c hc => by rw [mU_1, uM_n (by omega)]; exact h2 c hc, fun c hc => by rw [mU_1, uM_ne (by decide)]; exact h3 c hc, fun c hc k => by rw [mU_1, uM_ne (by decide)]; exact h4 c hc k⟩
  · rw [if_neg (by decide), if_neg (by decide), if_pos rfl]
    exact ⟨fun k a b c d e => by rw [mU_1, uM_ne b]; exact h1 k a b c d e, fun c hc => by rw [mU_1, uM_ne (by decide)]; exact h2 c hc, fun c hc => by rw [mU_1, uM_n (by omega)]; exact h3 c hc, fun c hc k => by rw [mU_1, uM_ne (by decide)]; exact h4 c hc k⟩
  · rw [if_neg (by decide), if_neg (by decide), if_neg (by decide)]
    exact ⟨fun k a b c d e => by rw [mU_1, uM_ne a]; exact h1 k a b c d e, fun c hc => by rw [mU_1, uM_ne (by decide)]; exact h2 c hc, fun c hc => by rw [mU_1, uM_ne (by decide)]; exact h3 c hc, fun c hc k => by rw [mU_1, uM_n (by omega)]; exact h4 c hc k⟩
/-- sort of thing w -/
def sjS (w : Nat) : Nat := if w = 1 then 7 else if w = 2 then 3 else if w = 3 then 4 else if w = 4 then 5 else 9
theorem lt_g {x y : mS} {w i v : Nat} (hw : 1 ≤ w ∧ w ≤ 5) (h : ltF x y (sjS w) i) : (∀ j, j < 5 → gV (lyX y (sjS w) i (nI v)) i j = chR (gV x i) (nI w) v j) ∧ (lyX y (sjS w) i (nI v)).1 4 = x.1 4 := by
  have hc : w = 1 ∨ w = 2 ∨ w = 3 ∨ w = 4 ∨ w = 5 := by omega
  obtain ⟨h1, h2, h3, h4⟩ := h
  have e4 := h1 4 (by decide) (by decide) (by decide) (by decide) (by decide)
  rcases hc with rfl | rfl | rfl | rfl | rfl
  all_goals (refine ⟨fun j hj => ?_, by simp [lyX, sjS, mU_1, uM_ne, e4]⟩)
  all_goals (have hj5 : j = 0 ∨ j = 1 ∨ j = 2 ∨ j = 3 ∨ j = 4 := by omega)
  all_goals (simp only [sjS] at h2 h3)
  all_goals (rcases hj5 with rfl | rfl | rfl | rfl | rfl)
  all_goals (simp [lyX, sjS, mU_1, uM_all, chR, gV, nI])
  all_goals (first | done | (refine h2 _ ?_; simp; try omega) | (refine h3 _ ?_; simp; try omega))
theorem lt_in {x y : mS} {m t ru w i v : Nat} {B : Nat → Nat → Int32} {N : Nat → Nat} (hX : inM x m t ru B N) (hw : 1 ≤ w ∧ w ≤ 5) (h : ltF x y (sjS w) i) (hv : (w = 3 → v < 20) ∧ (w = 5 → v < t)) : inM (lyX y (sjS w) i (nI v)) m t (if w = 5 then v else ru) B N := by
  have hF := ltF_l (v := nI v) h (by unfold sjS; (repeat' split) <;> omega)
  obtain ⟨h1, h2, h3, h4⟩ := hF
  obtain ⟨⟨a1, a2⟩, a3, a4, a5, a6, a7⟩ := hX
  have e4 := h1 4 (by decide) (by decide) (by decide) (by decide) (by decide)
  refine ⟨⟨by rw [h4 10 (by decide) (by omega)]; exact a1, a2⟩, by rw [h4 3 (by decide) (by omega)]; exact a3, ?_, by unfold wkR; rw [e4]; exact a5, fun j hj => tgM_h (a6 j hj) (h1 1 (by decide) (by decide) (by decide) (by decide) (by decide)) (h1 2 (by decide) (by decide) (by decide) (by decide) (by decide)), fun j hj => ?_⟩
  · by_cases h5 : w = 5
    · subst h5
      rw [if_pos rfl]
      exact ⟨by simp [lyX, sjS, mU_1, uM_all], hv.2 rfl⟩
    · rw [if_neg h5, h4 4 (by decide) (by unfold sjS; (repeat' split) <;> omega)]; exact a4
  · by_cases h9 : w = 3 ∧ j = i
    · obtain ⟨rfl, rfl⟩ := h9
      have e : (lyX y (sjS 3) j (nI v)).1 6 (4 * j + 1) = nI v := by simp [lyX, sjS, mU_1, uM_all]
      rw [e]; exact nI_19 (hv.1 rfl)
    · rw [h2 (4 * j + 1) (by unfold sjS; (repeat' split) <;> omega)]; exact a7 j hj
theorem lt_b {x y : mS} {w i : Nat} {v : Int32} (hw : 1 ≤ w ∧ w ≤ 5) (h : ltF x y (sjS w) i) (hv : v = if w = 5 then x.1 0 4 else if w = 1 then x.1 5 i else x.1 6 (4 * i + (sjS w - 3))) : mK x (lyX y (sjS w) i v) := by
  have hF := ltF_l (v := v) h (by unfold sjS; (repeat' split) <;> omega)
  obtain ⟨h1, h2, h3, h4⟩ := hF
  have hc : w = 1 ∨ w = 2 ∨ w = 3 ∨ w = 4 ∨ w = 5 := by omega
  refine ⟨fun k a b c => ?_, fun c hc2 => ?_⟩
  · by_cases k5 : k = 5
    · subst k5
      funext c
      by_cases hh : sjS w = 7 ∧ c = i
      · rcases hc with rfl | rfl | rfl | rfl | rfl
        · obtain ⟨_, rfl⟩ := hh; simp [lyX, sjS, mU_1, uM_all, hv]
        all_goals (exact absurd hh.1 (by decide))
      · exact h3 c hh
    by_cases k6 : k = 6
    · subst k6
      funext c
      by_cases hh : sjS w < 7 ∧ c = 4 * i + (sjS w - 3)
      · rcases hc with rfl | rfl | rfl | rfl | rfl
        · exact absurd hh.1 (by decide)
        · obtain ⟨_, rfl⟩ := hh; simp [lyX, sjS, mU_1, uM_all, hv]
        · obtain ⟨_, rfl⟩ := hh; simp [lyX, sjS, mU_1, uM_all, hv]
        · obtain ⟨_, rfl⟩ := hh; simp [lyX, sjS, mU_1, uM_all, hv]
        · exact absurd hh.1 (by decide)
      · exact h2 c hh
    · exact h1 k a k5 k6 b c
  · by_cases hh : sjS w = 9 ∧ c = 4
    · rcases hc with rfl | rfl | rfl | rfl | rfl
      all_goals first
        | exact absurd hh.1 (by decide)
        | (obtain ⟨_, rfl⟩ := hh; simp [lyX, sjS, mU_1, uM_all, hv])
    · exact h4 c hc2 hh
theorem or_0 {a b : Int32} : a ||| (0 <<< b) = a := by simp
/-- a sheet is a film -/
def flQ (x z : mS) (s n : Nat) (wh : Nat → Int32) : Prop := (∀ k, k ≠ 0 → k ≠ 7 → k ≠ 8 → (k < 12 ∨ 15 < k) → z.1 k = x.1 k) ∧ (∀ j, (j < 11 ∨ 25 < j) → z.1 0 j = x.1 0 j) ∧ z.1 12 = upd (x.1 12) s 1 ∧ z.1 13 = upd (x.1 13) s 0 ∧ z.1 14 = upd (x.1 14) s (nI n) ∧ (∀ j, (j < 40 * s ∨ 40 * s + 40 ≤ j) → z.1 15 j = x.1 15 j) ∧ ∀ d, d < n → z.1 15 (40 * s + d) = wh d

set_option maxHeartbeats 4000000 in
set_option maxRecDepth 100000 in
theorem c_X10_hang (l : Launch) (g : jG) (a : Nat → Nat) (x : mS) (p : Int32) (w : Int32) (m t ru : Nat) (B : Nat → Nat → Int32) (N : Nat → Nat) (hX : inM x m t ru B N) : Cl l g yX10_hang cX10_hang 11 45 1003 0 0 (mW g a) [.ref (a 0), .int p, .int w] x (fun r z => r = (if (0 ≤ p ∧ p < x.1 0 10) ∧ (0 ≤ w ∧ w < 2) then (if w = 0 then (hgW (hgV (tM B N ru) (gV x p.toNatClampNeg) (x.1 4 0) (x.1 4 1) (x.1 4 2)) 100).toInt64 else hgM (hgV (tM B N ru) (gV x p.toNatClampNeg) (x.1 4 0) (x.1 4 1) (x.1 4 2)) 100) else -4611686018427387904) ∧ mK x z) := by
  refine mk_l (by decide +kernel) rfl (fun KK hKl hKg C hin hret => ?_)
  subst hKl; subst hKg
  refine j_lv (lv' := [(0, _), (1, _), (2, _)]) rfl ?_
  have hm6 := hX.1.2
  refine j_aload_n C dX10_hang_0 rfl rfl ?_
  refine j_iload_n C dX10_hang_1 rfl rfl ?_
  refine j_calliv C (c_X10_isGlove _ _ _ _ _ m hX.1) dX10_hang_2 jm_RX10_79 ⟨_, _, _, _, wO mO, rfl, rfl⟩ ⟨by decide, by decide, by decide, by decide⟩ rfl (Nat.le_of_ble_eq_true rfl) (fun r z hz => ?_)
  obtain ⟨hb, hz⟩ := hz; have hz := hz.symm; subst hz
  rcases hb with ⟨rfl, b_2⟩ | ⟨rfl, b_2⟩
  · skip
    obtain ⟨i, hi, rfl⟩ := in_of (B := m) b_2 hX.1.1 (by omega)
    have hi6 : i < 6 := by omega
    refine j_if_eq (tgt := 18) C dX10_hang_5 (by decide) (fun c => absurd c (by decide)) (fun _ => ?_)
    refine j_iload_n C dX10_hang_8 rfl rfl ?_
    refine j_i2l C dX10_hang_9 ?_
    refine j_lconst (v := 0) C dX10_hang_10 rfl ?_
    refine j_lconst (v := 1) C dX10_hang_11 rfl ?_
    refine j_callis C (c_X10_in _ _ _ _ _ _ _ ) dX10_hang_12 jm_RX10_73 ⟨by decide, by decide, by decide, by decide⟩ rfl (Nat.le_of_ble_eq_true rfl) (fun r z hz => ?_)
    obtain ⟨hb, hz⟩ := hz; have hz := hz.symm; subst hz
    rcases hb with ⟨rfl, b_12⟩ | ⟨rfl, b_12⟩
    · skip
      have hc_12 : 0 ≤ w ∧ w < 2 := by simp only [Int32.lt_iff_toInt_lt, Int32.le_iff_toInt_le, ← Int32.toInt_inj, Int32.reduceToInt, Int64.lt_iff_toInt_lt, Int64.le_iff_toInt_le, Int32.toInt_toInt64, Int64.reduceToInt] at b_12 ⊢; omega
      refine j_if_ne (tgt := 22) C dX10_hang_15 (by decide) (fun _ => ?_) (fun c => absurd c (by decide))
      refine j_aload_n C dX10_hang_22 rfl rfl ?_
      refine j_get C dX10_hang_23 jf_RX10_29 (wO mO) rfl ?_
      refine j_iconst (v := 4) C dX10_hang_26 rfl ?_
      refine j_iload_n C dX10_hang_27 rfl rfl ?_
      refine j_imul C dX10_hang_28 ?_
      refine j_iconst (v := 1) C dX10_hang_29 rfl ?_
      refine j_iadd C dX10_hang_30 ?_
      refine j_iald C (4 * i + 1) dX10_hang_31 (wA mA6) ((congrArg (· + nI 1) (pk_mul 4 i)).trans (nI_add _ _)) (by omega) (by decide) ?_
      refine j_istore_n (lv' := [(3, _), (0, _), (1, _), (2, _)]) C dX10_hang_32 rfl (by decide) rfl ?_
      refine j_aload_n C dX10_hang_33 rfl rfl ?_
      refine j_get C dX10_hang_34 jf_RX10_29 (wO mO) rfl ?_
      refine j_iconst (v := 4) C dX10_hang_37 rfl ?_
      refine j_iload_n C dX10_hang_38 rfl rfl ?_
      refine j_imul C dX10_hang_39 ?_
      refine j_iconst (v := 2) C dX10_hang_40 rfl ?_
      refine j_iadd C dX10_hang_41 ?_
      refine j_iald C (4 * i + 2) dX10_hang_42 (wA mA6) ((congrArg (· + nI 2) (pk_mul 4 i)).trans (nI_add _ _)) (by omega) (by decide) ?_
      refine j_istore (lv' := [(4, _), (3, _), (0, _), (1, _), (2, _)]) C dX10_hang_43 (by decide) rfl ?_
      refine j_iconst (v := -1) C dX10_hang_45 rfl ?_
      refine j_istore (lv' := [(5, _), (4, _), (3, _), (0, _), (1, _), (2, _)]) C dX10_hang_46 (by decide) rfl ?_
      refine j_lconst (v := 0) C dX10_hang_48 rfl ?_
      refine j_lstore (lv' := [(6, _), (5, _), (4, _), (3, _), (0, _), (1, _), (2, _)]) C dX10_hang_49 (by decide) rfl ?_
      refine j_iconst (v := 0) C dX10_hang_51 rfl ?_
      refine j_istore (lv' := [(8, _), (6, _), (5, _), (4, _), (3, _), (0, _), (1, _), (2, _)]) C dX10_hang_52 (by decide) rfl ?_
      have L_54 : ∀ k : Nat, ∀ (c : Nat) (x' : mS) (F : Int32) (Mo : Int64), c ≤ 100 → 100 < c + k → hgF x x' i → F = (if c = 0 then -1 else hgW (hgV (tM B N ru) (gV x i) (x.1 4 0) (x.1 4 1) (x.1 4 2)) c) → Mo = (if c = 0 then 0 else hgM (hgV (tM B N ru) (gV x i) (x.1 4 0) (x.1 4 1) (x.1 4 2)) c) → J KK (mW (kG KK) a) 0 0 x' [(0, .ref (a 0)), (1, .int (nI i)), (2, .int w), (3, .int (x.1 6 (4 * i + 1))), (4, .int (x.1 6 (4 * i + 2))), (5, .int F), (6, .long Mo), (8, .int (nI c))] 54 [] := by
        intro k
        induction k with
        | zero => intro c x' F Mo h1 hk hF hFo hMo; omega
        | succ k ih =>
          intro c x' F Mo h1 hk hF hFo hMo
          have e_c : (nI c).toInt = c := nI_toInt (by omega)
          refine j_iload C dX10_hang_54 rfl ?_
          refine j_bipush (v := 100) C dX10_hang_56 rfl ?_
          refine j_icmp_ge (tgt := 136) C dX10_hang_58 (by decide) (fun c_58 => ?_) (fun c_58 => ?_)
          · skip
            have hc : c = 100 := by simp only [Int32.lt_iff_toInt_lt, Int32.le_iff_toInt_le, ← Int32.toInt_inj, Int32.reduceToInt, e_c] at c_58; omega
            subst hc
            refine j_aload_n C dX10_hang_136 rfl rfl ?_
            refine j_get C dX10_hang_137 jf_RX10_29 (wO mO) rfl ?_
            refine j_iconst (v := 4) C dX10_hang_140 rfl ?_
            refine j_iload_n C dX10_hang_141 rfl rfl ?_
            refine j_imul C dX10_hang_142 ?_
            refine j_iconst (v := 1) C dX10_hang_143 rfl ?_
            refine j_iadd C dX10_hang_144 ?_
            refine j_iload_n C dX10_hang_145 rfl rfl ?_
            refine j_iast C (4 * i + 1) dX10_hang_146 (wA mA6) ((congrArg (· + nI 1) (pk_mul 4 i)).trans (nI_add _ _)) (by omega) (by decide) (sMa mA6 _ _) ?_
            refine j_aload_n C dX10_hang_147 rfl rfl ?_
            refine j_get C dX10_hang_148 jf_RX10_29 (wO mO) rfl ?_
            refine j_iconst (v := 4) C dX10_hang_151 rfl ?_
            refine j_iload_n C dX10_hang_152 rfl rfl ?_
            refine j_imul C dX10_hang_153 ?_
            refine j_iconst (v := 2) C dX10_hang_154 rfl ?_
            refine j_iadd C dX10_hang_155 ?_
            refine j_iload C dX10_hang_156 rfl ?_
            refine j_iast C (4 * i + 2) dX10_hang_158 (wA mA6) ((congrArg (· + nI 2) (pk_mul 4 i)).trans (nI_add _ _)) (by omega) (by decide) (sMa mA6 _ _) ?_
            refine j_iload_n C dX10_hang_159 rfl rfl ?_
            refine j_if_ne (tgt := 169) C dX10_hang_160 (by decide) (fun c_160 => ?_) (fun c_160 => ?_)
            · skip
              refine j_lload C dX10_hang_169 rfl ?_
              refine hret _ _ _ _ dX10_hang_171 ?_
              refine ok_pos ⟨⟨(nI_0le hi (by omega)).1, by rw [hX.1.1]; exact (nI_0le hi (by omega)).2⟩, hc_12⟩ ?_
              rw [nI_clamp (show i < 2147483648 by omega)]
              have hFz : mK x (mU (mU x' 6 (4 * i + 1) (x.1 6 (4 * i + 1))) 6 (4 * i + 2) (x.1 6 (4 * i + 2))) := by
                refine ⟨fun k a b c => ?_, fun j hj => by rw [mU_1, uM_ne (by decide), mU_1, uM_ne (by decide)]; exact hF.2.1 j hj⟩
                by_cases k6 : k = 6
                · subst k6
                  funext j
                  rw [mU_1, uM_all, mU_1, uM_all]
                  by_cases h2 : j = 4 * i + 2
                  · rw [if_pos ⟨rfl, h2⟩, h2]
                  · rw [if_neg (fun h => h2 h.2)]
                    by_cases h1 : j = 4 * i + 1
                    · rw [if_pos ⟨rfl, h1⟩, h1]
                    · rw [if_neg (fun h => h1 h.2)]; exact hF.2.2 j h1 h2
                · rw [mU_1, uM_ne k6, mU_1, uM_ne k6]; exact hF.1 k a k6 b c
              exact ⟨by rw [if_neg c_160, hMo, if_neg (by decide)], hFz⟩
            · skip
              refine j_iload C dX10_hang_163 rfl ?_
              refine j_i2l C dX10_hang_165 ?_
              refine j_goto (tgt := 171) C dX10_hang_166 (by decide) ?_
              refine hret _ _ _ _ dX10_hang_171 ?_
              refine ok_pos ⟨⟨(nI_0le hi (by omega)).1, by rw [hX.1.1]; exact (nI_0le hi (by omega)).2⟩, hc_12⟩ ?_
              rw [nI_clamp (show i < 2147483648 by omega)]
              have hFz : mK x (mU (mU x' 6 (4 * i + 1) (x.1 6 (4 * i + 1))) 6 (4 * i + 2) (x.1 6 (4 * i + 2))) := by
                refine ⟨fun k a b c => ?_, fun j hj => by rw [mU_1, uM_ne (by decide), mU_1, uM_ne (by decide)]; exact hF.2.1 j hj⟩
                by_cases k6 : k = 6
                · subst k6
                  funext j
                  rw [mU_1, uM_all, mU_1, uM_all]
                  by_cases h2 : j = 4 * i + 2
                  · rw [if_pos ⟨rfl, h2⟩, h2]
                  · rw [if_neg (fun h => h2 h.2)]
                    by_cases h1 : j = 4 * i + 1
                    · rw [if_pos ⟨rfl, h1⟩, h1]
                    · rw [if_neg (fun h => h1 h.2)]; exact hF.2.2 j h1 h2
                · rw [mU_1, uM_ne k6, mU_1, uM_ne k6]; exact hF.1 k a k6 b c
              exact ⟨by rw [if_pos c_160, hFo, if_neg (by decide)], hFz⟩
          · skip
            have hc : c < 100 := by simp only [Int32.lt_iff_toInt_lt, Int32.le_iff_toInt_le, ← Int32.toInt_inj, Int32.reduceToInt, e_c] at c_58; omega
            refine j_aload_n C dX10_hang_61 rfl rfl ?_
            refine j_get C dX10_hang_62 jf_RX10_29 (wO mO) rfl ?_
            refine j_iconst (v := 4) C dX10_hang_65 rfl ?_
            refine j_iload_n C dX10_hang_66 rfl rfl ?_
            refine j_imul C dX10_hang_67 ?_
            refine j_iconst (v := 1) C dX10_hang_68 rfl ?_
            refine j_iadd C dX10_hang_69 ?_
            refine j_iload C dX10_hang_70 rfl ?_
            refine j_iconst (v := 5) C dX10_hang_72 rfl ?_
            refine j_idiv C dX10_hang_73 (by decide) ?_
            refine j_top (v' := .int (nI (c / 5))) (vint (pk_div (d := 5) (by omega) (by decide) (by decide))) ?_
            refine j_iast C (4 * i + 1) dX10_hang_74 (wA mA6) ((congrArg (· + nI 1) (pk_mul 4 i)).trans (nI_add _ _)) (by omega) (by decide) (sMa mA6 _ _) ?_
            refine j_aload_n C dX10_hang_75 rfl rfl ?_
            refine j_get C dX10_hang_76 jf_RX10_29 (wO mO) rfl ?_
            refine j_iconst (v := 4) C dX10_hang_79 rfl ?_
            refine j_iload_n C dX10_hang_80 rfl rfl ?_
            refine j_imul C dX10_hang_81 ?_
            refine j_iconst (v := 2) C dX10_hang_82 rfl ?_
            refine j_iadd C dX10_hang_83 ?_
            refine j_iload C dX10_hang_84 rfl ?_
            refine j_iconst (v := 5) C dX10_hang_86 rfl ?_
            refine j_irem C dX10_hang_87 (by decide) ?_
            refine j_top (v' := .int (nI (c % 5))) (vint (pk_rem (d := 5) (by omega) (by decide) (by decide))) ?_
            refine j_iast C (4 * i + 2) dX10_hang_88 (wA mA6) ((congrArg (· + nI 2) (pk_mul 4 i)).trans (nI_add _ _)) (by omega) (by decide) (sMa mA6 _ _) ?_
            refine j_aload_n C dX10_hang_89 rfl rfl ?_
            refine j_iload_n C dX10_hang_90 rfl rfl ?_
            refine j_bipush (v := 30) C dX10_hang_91 rfl ?_
            refine j_calllv C (c_X10_partsBy _ _ _ _ _ _ m t ru B N (hgF_in hX (hgF_s (hgF_s hF (Or.inl rfl)) (Or.inr rfl)) (by rw [mU_1, uM_n (by omega), mU_1, uM_s]; exact nI_19 (by omega))) i 30 rfl hi rfl (by decide)) dX10_hang_93 jm_RX10_357 ⟨_, _, _, _, wO mO, rfl, rfl⟩ ⟨by decide, by decide, by decide, by decide⟩ rfl (Nat.le_of_ble_eq_true rfl) (fun r_93 z_93 hz_93 => ?_)
            obtain ⟨hr_93, hK_93⟩ := hz_93
            have hF2 : hgF x (mU (mU x' 6 (4 * i + 1) (nI (c / 5))) 6 (4 * i + 2) (nI (c % 5))) i := hgF_s (hgF_s hF (Or.inl rfl)) (Or.inr rfl)
            rw [hg_lk hF2 (by rw [mU_1, uM_n (by omega), mU_1, uM_s]) (by rw [mU_1, uM_s])] at hr_93
            have hr_93 := hr_93.symm; subst hr_93
            have hF9 := hgF_k hF2 hK_93
            refine j_lstore (lv' := [(9, _), (0, _), (1, _), (2, _), (3, _), (4, _), (5, _), (6, _), (8, _)]) C dX10_hang_96 (by decide) rfl ?_
            refine j_iload C dX10_hang_98 rfl ?_
            refine j_iconst (v := -1) C dX10_hang_100 rfl ?_
            refine j_icmp_eq (tgt := 112) C dX10_hang_101 (by decide) (fun c_101 => ?_) (fun c_101 => ?_)
            · skip
              have hc0 : c = 0 := by
                rcases Nat.eq_zero_or_pos c with h | h
                · exact h
                · rw [if_neg (by omega), hg_x (by omega)] at hFo
                  have h9 := amS_lt (v := (hgV (tM B N ru) (gV x i) (x.1 4 0) (x.1 4 1) (x.1 4 2))) c h
                  rw [c_101] at hFo; exact absurd hFo.symm (nI_no1 (by omega))
              have hcc : hgM (hgV (tM B N ru) (gV x i) (x.1 4 0) (x.1 4 1) (x.1 4 2)) c < (hgV (tM B N ru) (gV x i) (x.1 4 0) (x.1 4 1) (x.1 4 2)) c := by
                rw [hgM, if_pos hc0]
                obtain ⟨P, hP, e⟩ := hgV_in (T := (tM B N ru)) (r := gV x i) (f := x.1 4 0) (b := x.1 4 1) (s := x.1 4 2) (k := c)
                rw [e]; exact hg_0 hP
              refine j_bipush (v := 10) C dX10_hang_112 rfl ?_
              refine j_iload C dX10_hang_114 rfl ?_
              refine j_iconst (v := 5) C dX10_hang_116 rfl ?_
              refine j_idiv C dX10_hang_117 (by decide) ?_
              refine j_imul C dX10_hang_118 ?_
              refine j_iload C dX10_hang_119 rfl ?_
              refine j_iconst (v := 5) C dX10_hang_121 rfl ?_
              refine j_irem C dX10_hang_122 (by decide) ?_
              refine j_iadd C dX10_hang_123 ?_
              have hq9 : (10 : Int32) * (nI c / 5) + (nI c - nI c / 5 * 5) = nI (10 * (c / 5) + c % 5) := by
                rw [show nI c - nI c / 5 * 5 = nI (c % 5) from pk_rem (d := 5) (by omega) (by decide) (by decide), show nI c / 5 = nI (c / 5) from pk_div (d := 5) (by omega) (by decide) (by decide), show (10 : Int32) * nI (c / 5) = nI (10 * (c / 5)) from pk_mul 10 _, nI_add]
              refine j_top (vint hq9) ?_
              refine j_istore (lv' := [(5, _), (9, _), (0, _), (1, _), (2, _), (3, _), (4, _), (6, _), (8, _)]) C dX10_hang_124 (by decide) rfl ?_
              refine j_lload C dX10_hang_126 rfl ?_
              refine j_lstore (lv' := [(6, _), (5, _), (9, _), (0, _), (1, _), (2, _), (3, _), (4, _), (8, _)]) C dX10_hang_128 (by decide) rfl ?_
              refine j_iinc (lv' := [(8, _), (6, _), (5, _), (9, _), (0, _), (1, _), (2, _), (3, _), (4, _)]) (v := nI (c + 1)) C dX10_hang_130 rfl (j_inc1 c) (by decide) rfl ?_
              refine j_goto (tgt := 54) C dX10_hang_133 (by decide) ?_
              refine j_lv (lv' := [(0, _), (1, _), (2, _), (3, _), (4, _), (5, _), (6, _), (8, _)]) rfl ?_
              exact ih (c + 1) z_93 _ _ (by omega) (by omega) hF9 (by rw [if_neg (by omega), (hg_t hcc).2]) (by rw [if_neg (by omega), (hg_t hcc).1])
            · skip
              have hc0 : ¬ c = 0 := fun h => c_101 (by rw [hFo, if_pos h])
              refine j_lload C dX10_hang_104 rfl ?_
              refine j_lload C dX10_hang_106 rfl ?_
              refine j_lcmp C dX10_hang_108 ?_
              refine j_if_le (tgt := 130) C dX10_hang_109 (by decide) (fun c_109 => ?_) (fun c_109 => ?_)
              · rw [lg_cmp_le] at c_109
                have hcc : ¬ hgM (hgV (tM B N ru) (gV x i) (x.1 4 0) (x.1 4 1) (x.1 4 2)) c < (hgV (tM B N ru) (gV x i) (x.1 4 0) (x.1 4 1) (x.1 4 2)) c := by rw [hMo, if_neg hc0] at c_109; rw [Int64.lt_iff_toInt_lt]; rw [Int64.le_iff_toInt_le] at c_109; exact Int.not_lt.mpr c_109
                refine j_iinc (lv' := [(8, _), (9, _), (0, _), (1, _), (2, _), (3, _), (4, _), (5, _), (6, _)]) (v := nI (c + 1)) C dX10_hang_130 rfl (j_inc1 c) (by decide) rfl ?_
                refine j_goto (tgt := 54) C dX10_hang_133 (by decide) ?_
                refine j_lv (lv' := [(0, _), (1, _), (2, _), (3, _), (4, _), (5, _), (6, _), (8, _)]) rfl ?_
                exact ih (c + 1) z_93 _ _ (by omega) (by omega) hF9 (by rw [if_neg (by omega), (hg_f hgV_in hcc).2, hFo, if_neg hc0]) (by rw [if_neg (by omega), (hg_f hgV_in hcc).1, hMo, if_neg hc0])
              · rw [lg_cmp_le] at c_109
                have hcc : hgM (hgV (tM B N ru) (gV x i) (x.1 4 0) (x.1 4 1) (x.1 4 2)) c < (hgV (tM B N ru) (gV x i) (x.1 4 0) (x.1 4 1) (x.1 4 2)) c := by rw [hMo, if_neg hc0] at c_109; rw [Int64.lt_iff_toInt_lt]; rw [Int64.le_iff_toInt_le] at c_109; exact Int.not_le.mp c_109
                refine j_bipush (v := 10) C dX10_hang_112 rfl ?_
                refine j_iload C dX10_hang_114 rfl ?_
                refine j_iconst (v := 5) C dX10_hang_116 rfl ?_
                refine j_idiv C dX10_hang_117 (by decide) ?_
                refine j_imul C dX10_hang_118 ?_
                refine j_iload C dX10_hang_119 rfl ?_
                refine j_iconst (v := 5) C dX10_hang_121 rfl ?_
                refine j_irem C dX10_hang_122 (by decide) ?_
                refine j_iadd C dX10_hang_123 ?_
                have hq9 : (10 : Int32) * (nI c / 5) + (nI c - nI c / 5 * 5) = nI (10 * (c / 5) + c % 5) := by
                  rw [show nI c - nI c / 5 * 5 = nI (c % 5) from pk_rem (d := 5) (by omega) (by decide) (by decide), show nI c / 5 = nI (c / 5) from pk_div (d := 5) (by omega) (by decide) (by decide), show (10 : Int32) * nI (c / 5) = nI (10 * (c / 5)) from pk_mul 10 _, nI_add]
                refine j_top (vint hq9) ?_
                refine j_istore (lv' := [(5, _), (9, _), (0, _), (1, _), (2, _), (3, _), (4, _), (6, _), (8, _)]) C dX10_hang_124 (by decide) rfl ?_
                refine j_lload C dX10_hang_126 rfl ?_
                refine j_lstore (lv' := [(6, _), (5, _), (9, _), (0, _), (1, _), (2, _), (3, _), (4, _), (8, _)]) C dX10_hang_128 (by decide) rfl ?_
                refine j_iinc (lv' := [(8, _), (6, _), (5, _), (9, _), (0, _), (1, _), (2, _), (3, _), (4, _)]) (v := nI (c + 1)) C dX10_hang_130 rfl (j_inc1 c) (by decide) rfl ?_
                refine j_goto (tgt := 54) C dX10_hang_133 (by decide) ?_
                refine j_lv (lv' := [(0, _), (1, _), (2, _), (3, _), (4, _), (5, _), (6, _), (8, _)]) rfl ?_
                exact ih (c + 1) z_93 _ _ (by omega) (by omega) hF9 (by rw [if_neg (by omega), (hg_t hcc).2]) (by rw [if_neg (by omega), (hg_t hcc).1])
      refine j_lv (lv' := [(0, _), (1, _), (2, _), (3, _), (4, _), (5, _), (6, _), (8, _)]) rfl ?_
      exact L_54 101 0 x _ _ (by omega) (by omega) hgF_r rfl rfl
    · skip
      have hc_12 : ¬ (0 ≤ w ∧ w < 2) := fun h => b_12 (by simp only [Int32.lt_iff_toInt_lt, Int32.le_iff_toInt_le, ← Int32.toInt_inj, Int32.reduceToInt, Int64.lt_iff_toInt_lt, Int64.le_iff_toInt_le, Int32.toInt_toInt64, Int64.reduceToInt] at h ⊢; omega)
      refine j_if_ne (tgt := 22) C dX10_hang_15 (by decide) (fun c => absurd (by decide) c) (fun _ => ?_)
      refine j_ldc2 C dX10_hang_18 jc_RX10_349 ?_
      refine hret _ _ _ _ dX10_hang_21 ?_
      exact ⟨(if_neg (fun h => hc_12 h.2)).symm, mK_r⟩
  · skip
    refine j_if_eq (tgt := 18) C dX10_hang_5 (by decide) (fun _ => ?_) (fun c => absurd (by decide) c)
    refine j_ldc2 C dX10_hang_18 jc_RX10_349 ?_
    refine hret _ _ _ _ dX10_hang_21 ?_
    exact ⟨(if_neg (fun h => b_2 h.1)).symm, mK_r⟩
set_option maxHeartbeats 4000000 in
set_option maxRecDepth 100000 in
theorem c_X10_walk (l : Launch) (g : jG) (a : Nat → Nat) (x : mS) (p : Int32) (w : Int32) (m t ru : Nat) (B : Nat → Nat → Int32) (N : Nat → Nat) (hX : inM x m t ru B N) : Cl l g yX10_walk cX10_walk 12 45 1003 0 0 (mW g a) [.ref (a 0), .int p, .int w] x (fun r z => r = (if (0 ≤ p ∧ p < x.1 0 10) ∧ (0 ≤ w ∧ w < 2) then (if w = 0 then (wkO (tM B N ru) (gV x p.toNatClampNeg) 20).2.2.toInt64 else (wkO (tM B N ru) (gV x p.toNatClampNeg) 20).2.1) else -4611686018427387904) ∧ mKw x z) := by
  refine mk_l (by decide +kernel) rfl (fun KK hKl hKg C hin hret => ?_)
  subst hKl; subst hKg
  refine j_lv (lv' := [(0, _), (1, _), (2, _)]) rfl ?_
  have hm6 := hX.1.2
  refine j_aload_n C dX10_walk_0 rfl rfl ?_
  refine j_iload_n C dX10_walk_1 rfl rfl ?_
  refine j_calliv C (c_X10_isGlove _ _ _ _ _ m hX.1) dX10_walk_2 jm_RX10_79 ⟨_, _, _, _, wO mO, rfl, rfl⟩ ⟨by decide, by decide, by decide, by decide⟩ rfl (Nat.le_of_ble_eq_true rfl) (fun r z hz => ?_)
  obtain ⟨hb, hz⟩ := hz; have hz := hz.symm; subst hz
  rcases hb with ⟨rfl, b_2⟩ | ⟨rfl, b_2⟩
  · skip
    obtain ⟨i, hi, rfl⟩ := in_of (B := m) b_2 hX.1.1 (by omega)
    have hi6 : i < 6 := by omega
    refine j_if_eq (tgt := 18) C dX10_walk_5 (by decide) (fun c => absurd c (by decide)) (fun _ => ?_)
    refine j_iload_n C dX10_walk_8 rfl rfl ?_
    refine j_i2l C dX10_walk_9 ?_
    refine j_lconst (v := 0) C dX10_walk_10 rfl ?_
    refine j_lconst (v := 1) C dX10_walk_11 rfl ?_
    refine j_callis C (c_X10_in _ _ _ _ _ _ _ ) dX10_walk_12 jm_RX10_73 ⟨by decide, by decide, by decide, by decide⟩ rfl (Nat.le_of_ble_eq_true rfl) (fun r z hz => ?_)
    obtain ⟨hb, hz⟩ := hz; have hz := hz.symm; subst hz
    rcases hb with ⟨rfl, b_12⟩ | ⟨rfl, b_12⟩
    · skip
      have hc_12 : 0 ≤ w ∧ w < 2 := by simp only [Int32.lt_iff_toInt_lt, Int32.le_iff_toInt_le, ← Int32.toInt_inj, Int32.reduceToInt, Int64.lt_iff_toInt_lt, Int64.le_iff_toInt_le, Int32.toInt_toInt64, Int64.reduceToInt] at b_12 ⊢; omega
      refine j_if_ne (tgt := 22) C dX10_walk_15 (by decide) (fun _ => ?_) (fun c => absurd c (by decide))
      refine j_iconst (v := 0) C dX10_walk_22 rfl ?_
      refine j_istore_n (lv' := [(3, _), (0, _), (1, _), (2, _)]) C dX10_walk_23 rfl (by decide) rfl ?_
      have L_24 : ∀ k : Nat, ∀ (c : Nat) (x' : mS), c ≤ 3 → 3 < c + k → (∀ k, k ≠ 9 → x'.1 k = x.1 k) → (∀ j, j < c → x'.1 9 j = x.1 4 j) → J KK (mW (kG KK) a) 0 0 x' [(0, .ref (a 0)), (1, .int (nI i)), (2, .int w), (3, .int (nI c))] 24 [] := by
        intro k
        induction k with
        | zero => intro c x' h1 hk hF hA; omega
        | succ k ih0 =>
          intro c x' h1 hk hF hA
          have e_c : (nI c).toInt = c := nI_toInt (by omega)
          refine j_iload_n C dX10_walk_24 rfl rfl ?_
          refine j_iconst (v := 3) C dX10_walk_25 rfl ?_
          refine j_icmp_ge (tgt := 47) C dX10_walk_26 (by decide) (fun c_26 => ?_) (fun c_26 => ?_)
          · skip
            have hc : c = 3 := by simp only [Int32.lt_iff_toInt_lt, Int32.le_iff_toInt_le, ← Int32.toInt_inj, Int32.reduceToInt, e_c] at c_26; omega
            subst hc
            have hW0 : wkF x x' := ⟨fun k a b c d e => hF k e, fun j _ => by rw [hF 0 (by decide)], hA, fun j _ => by rw [hF 4 (by decide)]⟩
            refine j_iconst (v := -1) C dX10_walk_47 rfl ?_
            refine j_istore_n (lv' := [(3, _), (0, _), (1, _), (2, _)]) C dX10_walk_48 rfl (by decide) rfl ?_
            refine j_lconst (v := 0) C dX10_walk_49 rfl ?_
            refine j_lstore (lv' := [(4, _), (3, _), (0, _), (1, _), (2, _)]) C dX10_walk_50 (by decide) rfl ?_
            refine j_lconst (v := 0) C dX10_walk_52 rfl ?_
            refine j_lstore (lv' := [(6, _), (4, _), (3, _), (0, _), (1, _), (2, _)]) C dX10_walk_53 (by decide) rfl ?_
            refine j_aload_n C dX10_walk_55 rfl rfl ?_
            refine j_get C dX10_walk_56 jf_RX10_23 (wO mO) rfl ?_
            refine j_iconst (v := 0) C dX10_walk_59 rfl ?_
            refine j_iconst (v := 0) C dX10_walk_60 rfl ?_
            refine j_iast C (0) dX10_walk_61 (wA mA4) (rfl) (by decide) (by decide) (sMa mA4 _ _) ?_
            have L_62 : ∀ k : Nat, ∀ (f : Nat) (y : mS) (F : Int32) (Mo P : Int64), f ≤ 20 → 20 < f + k → wkF x y → y.1 4 0 = nI f → wkL (wkO (tM B N ru) (gV x i) f) F Mo P → (0 < f → ¬ F = -1) → J KK (mW (kG KK) a) 0 0 y [(0, .ref (a 0)), (1, .int (nI i)), (2, .int w), (3, .int F), (4, .long Mo), (6, .long P)] 62 [] := by
              intro k
              induction k with
              | zero => intro f y F Mo P hf hk hW h0 hL hN; omega
              | succ k ih1 =>
                intro f y F Mo P hf hk hW h0 hL hN
                have e_f : (nI f).toInt = f := nI_toInt (by omega)
                refine j_aload_n C dX10_walk_62 rfl rfl ?_
                refine j_get C dX10_walk_63 jf_RX10_23 (wO mO) rfl ?_
                refine j_iconst (v := 0) C dX10_walk_66 rfl ?_
                refine j_iald C (0) dX10_walk_67 (wA mA4) (rfl) (by decide) (by decide) ?_
                refine j_bipush (v := 20) C dX10_walk_68 rfl ?_
                refine j_icmp_ge (tgt := 235) C dX10_walk_70 (by decide) (fun c_70 => ?_) (fun c_70 => ?_)
                · skip
                  have hf2 : f = 20 := by rw [h0] at c_70; simp only [Int32.lt_iff_toInt_lt, Int32.le_iff_toInt_le, ← Int32.toInt_inj, Int32.reduceToInt, e_f] at c_70; omega
                  subst hf2
                  refine j_iconst (v := 0) C dX10_walk_235 rfl ?_
                  refine j_istore (lv' := [(8, _), (0, _), (1, _), (2, _), (3, _), (4, _), (6, _)]) C dX10_walk_236 (by decide) rfl ?_
                  have L_238 : ∀ k : Nat, ∀ (c : Nat) (y4 : mS), c ≤ 3 → 3 < c + k → wkF x y4 → (∀ j, j < c → y4.1 4 j = x.1 4 j) → J KK (mW (kG KK) a) 0 0 y4 [(0, .ref (a 0)), (1, .int (nI i)), (2, .int w), (3, .int F), (4, .long Mo), (6, .long P), (8, .int (nI c))] 238 [] := by
                    intro k
                    induction k with
                    | zero => intro c y4 h1 hk4 hW4 hA4; omega
                    | succ k ih4 =>
                      intro c y4 h1 hk4 hW4 hA4
                      have e_c : (nI c).toInt = c := nI_toInt (by omega)
                      refine j_iload C dX10_walk_238 rfl ?_
                      refine j_iconst (v := 3) C dX10_walk_240 rfl ?_
                      refine j_icmp_ge (tgt := 264) C dX10_walk_241 (by decide) (fun c_241 => ?_) (fun c_241 => ?_)
                      · skip
                        have hc : c = 3 := by simp only [Int32.lt_iff_toInt_lt, Int32.le_iff_toInt_le, ← Int32.toInt_inj, Int32.reduceToInt, e_c] at c_241; omega
                        subst hc
                        refine j_iload_n C dX10_walk_264 rfl rfl ?_
                        refine j_if_ne (tgt := 273) C dX10_walk_265 (by decide) (fun c_265 => ?_) (fun c_265 => ?_)
                        · skip
                          refine j_lload C dX10_walk_273 rfl ?_
                          refine hret _ _ _ _ dX10_walk_275 ?_
                          refine ok_pos ⟨⟨(nI_0le hi (by omega)).1, by rw [hX.1.1]; exact (nI_0le hi (by omega)).2⟩, hc_12⟩ ?_
                          rw [nI_clamp (show i < 2147483648 by omega)]
                          have hKz : mKw x y4 := ⟨fun k a b c d => by
                            by_cases k4 : k = 4
                            · subst k4
                              funext j
                              by_cases hj : j < 3
                              · exact hA4 j hj
                              · exact hW4.2.2.2 j (by omega)
                            · exact hW4.1 k a k4 b c d, hW4.2.1⟩
                          have hL9 : F = (wkO (tM B N ru) (gV x i) 20).2.2 ∧ P = (wkO (tM B N ru) (gV x i) 20).2.1 := by
                            rcases hL with ⟨e0, _, _, _⟩ | ⟨e1, _, e2, _⟩
                            · exact absurd e0 (hN (by omega))
                            · exact ⟨e1, e2⟩
                          exact ⟨by rw [if_neg c_265, hL9.2], hKz⟩
                        · skip
                          refine j_iload_n C dX10_walk_268 rfl rfl ?_
                          refine j_i2l C dX10_walk_269 ?_
                          refine j_goto (tgt := 275) C dX10_walk_270 (by decide) ?_
                          refine hret _ _ _ _ dX10_walk_275 ?_
                          refine ok_pos ⟨⟨(nI_0le hi (by omega)).1, by rw [hX.1.1]; exact (nI_0le hi (by omega)).2⟩, hc_12⟩ ?_
                          rw [nI_clamp (show i < 2147483648 by omega)]
                          have hKz : mKw x y4 := ⟨fun k a b c d => by
                            by_cases k4 : k = 4
                            · subst k4
                              funext j
                              by_cases hj : j < 3
                              · exact hA4 j hj
                              · exact hW4.2.2.2 j (by omega)
                            · exact hW4.1 k a k4 b c d, hW4.2.1⟩
                          have hL9 : F = (wkO (tM B N ru) (gV x i) 20).2.2 ∧ P = (wkO (tM B N ru) (gV x i) 20).2.1 := by
                            rcases hL with ⟨e0, _, _, _⟩ | ⟨e1, _, e2, _⟩
                            · exact absurd e0 (hN (by omega))
                            · exact ⟨e1, e2⟩
                          exact ⟨by rw [if_pos c_265, hL9.1], hKz⟩
                      · skip
                        have hc : c < 3 := by simp only [Int32.lt_iff_toInt_lt, Int32.le_iff_toInt_le, ← Int32.toInt_inj, Int32.reduceToInt, e_c] at c_241; omega
                        refine j_aload_n C dX10_walk_244 rfl rfl ?_
                        refine j_get C dX10_walk_245 jf_RX10_23 (wO mO) rfl ?_
                        refine j_iload C dX10_walk_248 rfl ?_
                        refine j_aload_n C dX10_walk_250 rfl rfl ?_
                        refine j_get C dX10_walk_251 jf_RX10_38 (wO mO) rfl ?_
                        refine j_iload C dX10_walk_254 rfl ?_
                        refine j_iald C (c) dX10_walk_256 (wA mA9) (rfl) (hc) (by decide) ?_
                        refine j_iast C (c) dX10_walk_257 (wA mA4) (rfl) (hc) (by decide) (sMa mA4 _ _) ?_
                        refine j_iinc (lv' := [(8, _), (0, _), (1, _), (2, _), (3, _), (4, _), (6, _)]) (v := nI (c + 1)) C dX10_walk_258 rfl (j_inc1 c) (by decide) rfl ?_
                        refine j_goto (tgt := 238) C dX10_walk_261 (by decide) ?_
                        refine j_lv (lv' := [(0, _), (1, _), (2, _), (3, _), (4, _), (6, _), (8, _)]) rfl ?_
                        exact ih4 (c + 1) _ (by omega) (by omega) (wkF_s hW4 hc) (fun j hj => by
                          by_cases h : j = c
                          · subst h; rw [mU_1, uM_s]; exact hW4.2.2.1 j (by omega)
                          · rw [mU_1, uM_n h]; exact hA4 j (by omega))
                  refine j_lv (lv' := [(0, _), (1, _), (2, _), (3, _), (4, _), (6, _), (8, _)]) rfl ?_
                  exact L_238 4 0 y (by omega) (by omega) hW (fun j hj => absurd hj (by omega))
                · skip
                  have hf2 : f < 20 := by rw [h0] at c_70; simp only [Int32.lt_iff_toInt_lt, Int32.le_iff_toInt_le, ← Int32.toInt_inj, Int32.reduceToInt, e_f] at c_70; omega
                  refine j_aload_n C dX10_walk_73 rfl rfl ?_
                  refine j_get C dX10_walk_74 jf_RX10_23 (wO mO) rfl ?_
                  refine j_iconst (v := 1) C dX10_walk_77 rfl ?_
                  refine j_aload_n C dX10_walk_78 rfl rfl ?_
                  refine j_get C dX10_walk_79 jf_RX10_23 (wO mO) rfl ?_
                  refine j_iconst (v := 0) C dX10_walk_82 rfl ?_
                  refine j_iald C (0) dX10_walk_83 (wA mA4) (rfl) (by decide) (by decide) ?_
                  refine j_iast C (1) dX10_walk_84 (wA mA4) (rfl) (by decide) (by decide) (sMa mA4 _ _) ?_
                  have L_85 : ∀ k : Nat, ∀ (u : Nat) (y2 : mS) (F2 : Int32) (Mo2 P2 : Int64), f ≤ u → u ≤ 20 → 20 < u + k → wkF x y2 → y2.1 4 0 = nI f → y2.1 4 1 = nI u → wkL (wkI (tM B N ru) (gV x i) f (wkO (tM B N ru) (gV x i) f) (2 * (u - f))) F2 Mo2 P2 → (f < u ∨ 0 < f → ¬ F2 = -1) → J KK (mW (kG KK) a) 0 0 y2 [(0, .ref (a 0)), (1, .int (nI i)), (2, .int w), (3, .int F2), (4, .long Mo2), (6, .long P2)] 85 [] := by
                    intro k
                    induction k with
                    | zero => intro u y2 F2 Mo2 P2 hfu hu hk2 hW2 h02 h12 hL2 hN2; omega
                    | succ k ih2 =>
                      intro u y2 F2 Mo2 P2 hfu hu hk2 hW2 h02 h12 hL2 hN2
                      have e_u : (nI u).toInt = u := nI_toInt (by omega)
                      refine j_aload_n C dX10_walk_85 rfl rfl ?_
                      refine j_get C dX10_walk_86 jf_RX10_23 (wO mO) rfl ?_
                      refine j_iconst (v := 1) C dX10_walk_89 rfl ?_
                      refine j_iald C (1) dX10_walk_90 (wA mA4) (rfl) (by decide) (by decide) ?_
                      refine j_bipush (v := 20) C dX10_walk_91 rfl ?_
                      refine j_icmp_ge (tgt := 222) C dX10_walk_93 (by decide) (fun c_93 => ?_) (fun c_93 => ?_)
                      · skip
                        have hu2 : 20 ≤ u := by rw [h12] at c_93; simp only [Int32.lt_iff_toInt_lt, Int32.le_iff_toInt_le, ← Int32.toInt_inj, Int32.reduceToInt, e_u] at c_93; omega
                        refine j_aload_n C dX10_walk_222 rfl rfl ?_
                        refine j_get C dX10_walk_223 jf_RX10_23 (wO mO) rfl ?_
                        refine j_iconst (v := 0) C dX10_walk_226 rfl ?_
                        refine j_dup2 C dX10_walk_227 rfl rfl ?_
                        refine j_iald C (0) dX10_walk_228 (wA mA4) (rfl) (by decide) (by decide) ?_
                        refine j_iconst (v := 1) C dX10_walk_229 rfl ?_
                        refine j_iadd C dX10_walk_230 ?_
                        refine j_iast C (0) dX10_walk_231 (wA mA4) (rfl) (by decide) (by decide) (sMa mA4 _ _) ?_
                        refine j_goto (tgt := 62) C dX10_walk_232 (by decide) ?_
                        refine j_lv (lv' := [(0, _), (1, _), (2, _), (3, _), (4, _), (6, _)]) rfl ?_
                        have ht9 : u = 20 := by omega
                        subst ht9
                        exact ih1 (f + 1) _ _ _ _ (by omega) (by omega) (wkF_s hW2 (by decide)) (by rw [mU_1, uM_s, h02, nI_1]) (by rw [wkO, show 40 - 2 * f = 2 * (20 - f) by omega]; exact hL2) (fun _ => hN2 (Or.inl (by omega)))
                      · skip
                        have hu2 : u < 20 := by rw [h12] at c_93; simp only [Int32.lt_iff_toInt_lt, Int32.le_iff_toInt_le, ← Int32.toInt_inj, Int32.reduceToInt, e_u] at c_93; omega
                        refine j_aload_n C dX10_walk_96 rfl rfl ?_
                        refine j_get C dX10_walk_97 jf_RX10_23 (wO mO) rfl ?_
                        refine j_iconst (v := 2) C dX10_walk_100 rfl ?_
                        refine j_iconst (v := 0) C dX10_walk_101 rfl ?_
                        refine j_iast C (2) dX10_walk_102 (wA mA4) (rfl) (by decide) (by decide) (sMa mA4 _ _) ?_
                        have L_103 : ∀ k : Nat, ∀ (v : Nat) (y3 : mS) (F3 : Int32) (Mo3 P3 : Int64), v ≤ 2 → 2 < v + k → wkF x y3 → y3.1 4 0 = nI f → y3.1 4 1 = nI u → y3.1 4 2 = nI v → wkL (wkI (tM B N ru) (gV x i) f (wkO (tM B N ru) (gV x i) f) (2 * (u - f) + v)) F3 Mo3 P3 → (0 < v ∨ f < u ∨ 0 < f → ¬ F3 = -1) → J KK (mW (kG KK) a) 0 0 y3 [(0, .ref (a 0)), (1, .int (nI i)), (2, .int w), (3, .int F3), (4, .long Mo3), (6, .long P3)] 103 [] := by
                          intro k
                          induction k with
                          | zero => intro v y3 F3 Mo3 P3 hv hk3 hW3 h03 h13 h23 hL3 hN3; omega
                          | succ k ih3 =>
                            intro v y3 F3 Mo3 P3 hv hk3 hW3 h03 h13 h23 hL3 hN3
                            have e_v : (nI v).toInt = v := nI_toInt (by omega)
                            refine j_aload_n C dX10_walk_103 rfl rfl ?_
                            refine j_get C dX10_walk_104 jf_RX10_23 (wO mO) rfl ?_
                            refine j_iconst (v := 2) C dX10_walk_107 rfl ?_
                            refine j_iald C (2) dX10_walk_108 (wA mA4) (rfl) (by decide) (by decide) ?_
                            refine j_iconst (v := 2) C dX10_walk_109 rfl ?_
                            refine j_icmp_ge (tgt := 209) C dX10_walk_110 (by decide) (fun c_110 => ?_) (fun c_110 => ?_)
                            · skip
                              have hv2 : 2 ≤ v := by rw [h23] at c_110; simp only [Int32.lt_iff_toInt_lt, Int32.le_iff_toInt_le, ← Int32.toInt_inj, Int32.reduceToInt, e_v] at c_110; omega
                              refine j_aload_n C dX10_walk_209 rfl rfl ?_
                              refine j_get C dX10_walk_210 jf_RX10_23 (wO mO) rfl ?_
                              refine j_iconst (v := 1) C dX10_walk_213 rfl ?_
                              refine j_dup2 C dX10_walk_214 rfl rfl ?_
                              refine j_iald C (1) dX10_walk_215 (wA mA4) (rfl) (by decide) (by decide) ?_
                              refine j_iconst (v := 1) C dX10_walk_216 rfl ?_
                              refine j_iadd C dX10_walk_217 ?_
                              refine j_iast C (1) dX10_walk_218 (wA mA4) (rfl) (by decide) (by decide) (sMa mA4 _ _) ?_
                              refine j_goto (tgt := 85) C dX10_walk_219 (by decide) ?_
                              refine j_lv (lv' := [(0, _), (1, _), (2, _), (3, _), (4, _), (6, _)]) rfl ?_
                              have hs9 : v = 2 := by omega
                              subst hs9
                              exact ih2 (u + 1) _ _ _ _ (by omega) (by omega) (by omega) (wkF_s hW3 (by decide)) (by rw [mU_1, uM_n (by decide)]; exact h03) (by rw [mU_1, uM_s, h13, nI_1]) (by rw [show 2 * (u + 1 - f) = 2 * (u - f) + 2 by omega]; exact hL3) (fun _ => hN3 (Or.inl (by omega)))
                            · skip
                              have hv2 : v < 2 := by rw [h23] at c_110; simp only [Int32.lt_iff_toInt_lt, Int32.le_iff_toInt_le, ← Int32.toInt_inj, Int32.reduceToInt, e_v] at c_110; omega
                              refine j_aload_n C dX10_walk_113 rfl rfl ?_
                              refine j_iload_n C dX10_walk_114 rfl rfl ?_
                              refine j_bipush (v := 30) C dX10_walk_115 rfl ?_
                              refine j_calllv C (c_X10_partsBy _ _ _ _ _ _ m t ru B N (wkF_in hX hW3 ⟨by rw [h03]; exact nI_19 hf2, by rw [h13]; exact nI_19 hu2⟩) i 30 rfl hi rfl (by decide)) dX10_walk_117 jm_RX10_357 ⟨_, _, _, _, wO mO, rfl, rfl⟩ ⟨by decide, by decide, by decide, by decide⟩ rfl (Nat.le_of_ble_eq_true rfl) (fun r_117 z_117 hz_117 => ?_)
                              obtain ⟨hr_117, hK_117⟩ := hz_117
                              have hw3 := wk_vw (T := (tM B N ru)) (r := gV x i) hfu hu2 hv2
                              rw [wkF_g hW3, h03, h13, h23, hw3.1] at hr_117
                              have hr_117 := hr_117.symm; subst hr_117
                              have hW9 := wkF_k hW3 hK_117
                              have g0 : z_117.1 4 0 = nI f := by rw [mK_4 hK_117]; exact h03
                              have g1 : z_117.1 4 1 = nI u := by rw [mK_4 hK_117]; exact h13
                              have g2 : z_117.1 4 2 = nI v := by rw [mK_4 hK_117]; exact h23
                              refine j_lstore (lv' := [(8, _), (0, _), (1, _), (2, _), (3, _), (4, _), (6, _)]) C dX10_walk_120 (by decide) rfl ?_
                              refine j_lload C dX10_walk_122 rfl ?_
                              refine j_ldc2 C dX10_walk_124 jc_RX10_361 ?_
                              refine j_aload_n C dX10_walk_127 rfl rfl ?_
                              refine j_get C dX10_walk_128 jf_RX10_23 (wO mO) rfl ?_
                              refine j_iconst (v := 1) C dX10_walk_131 rfl ?_
                              refine j_iald C (1) dX10_walk_132 (wA mA4) (rfl) (by decide) (by decide) ?_
                              refine j_aload_n C dX10_walk_133 rfl rfl ?_
                              refine j_get C dX10_walk_134 jf_RX10_23 (wO mO) rfl ?_
                              refine j_iconst (v := 0) C dX10_walk_137 rfl ?_
                              refine j_iald C (0) dX10_walk_138 (wA mA4) (rfl) (by decide) (by decide) ?_
                              refine j_isub C dX10_walk_139 ?_
                              refine j_iconst (v := 1) C dX10_walk_140 rfl ?_
                              refine j_iadd C dX10_walk_141 ?_
                              refine j_i2l C dX10_walk_142 ?_
                              refine j_lmul C dX10_walk_143 ?_
                              refine j_lsub C dX10_walk_144 ?_
                              rw [g0, g1, hw3.2.1]
                              refine j_lstore (lv' := [(10, _), (8, _), (0, _), (1, _), (2, _), (3, _), (4, _), (6, _)]) C dX10_walk_145 (by decide) rfl ?_
                              refine j_iload_n C dX10_walk_147 rfl rfl ?_
                              refine j_iconst (v := -1) C dX10_walk_148 rfl ?_
                              refine j_icmp_eq (tgt := 160) C dX10_walk_149 (by decide) (fun c_149 => ?_) (fun c_149 => ?_)
                              · skip
                                have hcc : F3 = -1 ∨ Mo3 < wkW (tM B N ru) (gV x i) f (2 * u + v) := Or.inl c_149
                                refine j_sipush (v := 1000) C dX10_walk_160 rfl ?_
                                refine j_aload_n C dX10_walk_163 rfl rfl ?_
                                refine j_get C dX10_walk_164 jf_RX10_23 (wO mO) rfl ?_
                                refine j_iconst (v := 0) C dX10_walk_167 rfl ?_
                                refine j_iald C (0) dX10_walk_168 (wA mA4) (rfl) (by decide) (by decide) ?_
                                refine j_imul C dX10_walk_169 ?_
                                refine j_bipush (v := 10) C dX10_walk_170 rfl ?_
                                refine j_aload_n C dX10_walk_172 rfl rfl ?_
                                refine j_get C dX10_walk_173 jf_RX10_23 (wO mO) rfl ?_
                                refine j_iconst (v := 1) C dX10_walk_176 rfl ?_
                                refine j_iald C (1) dX10_walk_177 (wA mA4) (rfl) (by decide) (by decide) ?_
                                refine j_imul C dX10_walk_178 ?_
                                refine j_iadd C dX10_walk_179 ?_
                                refine j_aload_n C dX10_walk_180 rfl rfl ?_
                                refine j_get C dX10_walk_181 jf_RX10_23 (wO mO) rfl ?_
                                refine j_iconst (v := 2) C dX10_walk_184 rfl ?_
                                refine j_iald C (2) dX10_walk_185 (wA mA4) (rfl) (by decide) (by decide) ?_
                                refine j_iadd C dX10_walk_186 ?_
                                rw [g0, g1, g2, hw3.2.2]
                                refine j_istore_n (lv' := [(3, _), (10, _), (8, _), (0, _), (1, _), (2, _), (4, _), (6, _)]) C dX10_walk_187 rfl (by decide) rfl ?_
                                refine j_lload C dX10_walk_188 rfl ?_
                                refine j_lstore (lv' := [(4, _), (3, _), (10, _), (8, _), (0, _), (1, _), (2, _), (6, _)]) C dX10_walk_190 (by decide) rfl ?_
                                refine j_lload C dX10_walk_192 rfl ?_
                                refine j_lstore (lv' := [(6, _), (4, _), (3, _), (10, _), (8, _), (0, _), (1, _), (2, _)]) C dX10_walk_194 (by decide) rfl ?_
                                refine j_aload_n C dX10_walk_196 rfl rfl ?_
                                refine j_get C dX10_walk_197 jf_RX10_23 (wO mO) rfl ?_
                                refine j_iconst (v := 2) C dX10_walk_200 rfl ?_
                                refine j_dup2 C dX10_walk_201 rfl rfl ?_
                                refine j_iald C (2) dX10_walk_202 (wA mA4) (rfl) (by decide) (by decide) ?_
                                refine j_iconst (v := 1) C dX10_walk_203 rfl ?_
                                refine j_iadd C dX10_walk_204 ?_
                                refine j_iast C (2) dX10_walk_205 (wA mA4) (rfl) (by decide) (by decide) (sMa mA4 _ _) ?_
                                refine j_goto (tgt := 103) C dX10_walk_206 (by decide) ?_
                                refine j_lv (lv' := [(0, _), (1, _), (2, _), (3, _), (4, _), (6, _)]) rfl ?_
                                have hst : wkI (tM B N ru) (gV x i) f (wkO (tM B N ru) (gV x i) f) (2 * (u - f) + (v + 1)) = wkT (tM B N ru) (gV x i) f (2 * u + v) (wkI (tM B N ru) (gV x i) f (wkO (tM B N ru) (gV x i) f) (2 * (u - f) + v)) := by
                                  rw [← Nat.add_assoc, wkI_s, show 2 * f + (2 * (u - f) + v) = 2 * u + v by omega]
                                exact ih3 (v + 1) _ _ _ _ (by omega) (by omega) (wkF_s hW9 (by decide)) (by rw [mU_1, uM_n (by decide)]; exact g0) (by rw [mU_1, uM_n (by decide)]; exact g1) (by rw [mU_1, uM_s, g2, nI_1]) (by rw [hst]; exact wk_y hL3 (by omega) hf2 (by omega) hcc) (fun _ => nI_no1 (by omega))
                              · skip
                                refine j_lload C dX10_walk_152 rfl ?_
                                refine j_lload C dX10_walk_154 rfl ?_
                                refine j_lcmp C dX10_walk_156 ?_
                                refine j_if_le (tgt := 196) C dX10_walk_157 (by decide) (fun c_157 => ?_) (fun c_157 => ?_)
                                · rw [lg_cmp_le] at c_157
                                  have hcc : ¬ Mo3 < wkW (tM B N ru) (gV x i) f (2 * u + v) := by rw [Int64.lt_iff_toInt_lt]; rw [Int64.le_iff_toInt_le] at c_157; exact Int.not_lt.mpr c_157
                                  refine j_aload_n C dX10_walk_196 rfl rfl ?_
                                  refine j_get C dX10_walk_197 jf_RX10_23 (wO mO) rfl ?_
                                  refine j_iconst (v := 2) C dX10_walk_200 rfl ?_
                                  refine j_dup2 C dX10_walk_201 rfl rfl ?_
                                  refine j_iald C (2) dX10_walk_202 (wA mA4) (rfl) (by decide) (by decide) ?_
                                  refine j_iconst (v := 1) C dX10_walk_203 rfl ?_
                                  refine j_iadd C dX10_walk_204 ?_
                                  refine j_iast C (2) dX10_walk_205 (wA mA4) (rfl) (by decide) (by decide) (sMa mA4 _ _) ?_
                                  refine j_goto (tgt := 103) C dX10_walk_206 (by decide) ?_
                                  refine j_lv (lv' := [(0, _), (1, _), (2, _), (3, _), (4, _), (6, _)]) rfl ?_
                                  have hst : wkI (tM B N ru) (gV x i) f (wkO (tM B N ru) (gV x i) f) (2 * (u - f) + (v + 1)) = wkT (tM B N ru) (gV x i) f (2 * u + v) (wkI (tM B N ru) (gV x i) f (wkO (tM B N ru) (gV x i) f) (2 * (u - f) + v)) := by
                                    rw [← Nat.add_assoc, wkI_s, show 2 * f + (2 * (u - f) + v) = 2 * u + v by omega]
                                  exact ih3 (v + 1) _ _ _ _ (by omega) (by omega) (wkF_s hW9 (by decide)) (by rw [mU_1, uM_n (by decide)]; exact g0) (by rw [mU_1, uM_n (by decide)]; exact g1) (by rw [mU_1, uM_s, g2, nI_1]) (by rw [hst]; exact wk_n hL3 c_149 hcc) (fun _ => c_149)
                                · rw [lg_cmp_le] at c_157
                                  have hcc : F3 = -1 ∨ Mo3 < wkW (tM B N ru) (gV x i) f (2 * u + v) := by right; rw [Int64.lt_iff_toInt_lt]; rw [Int64.le_iff_toInt_le] at c_157; exact Int.not_le.mp c_157
                                  refine j_sipush (v := 1000) C dX10_walk_160 rfl ?_
                                  refine j_aload_n C dX10_walk_163 rfl rfl ?_
                                  refine j_get C dX10_walk_164 jf_RX10_23 (wO mO) rfl ?_
                                  refine j_iconst (v := 0) C dX10_walk_167 rfl ?_
                                  refine j_iald C (0) dX10_walk_168 (wA mA4) (rfl) (by decide) (by decide) ?_
                                  refine j_imul C dX10_walk_169 ?_
                                  refine j_bipush (v := 10) C dX10_walk_170 rfl ?_
                                  refine j_aload_n C dX10_walk_172 rfl rfl ?_
                                  refine j_get C dX10_walk_173 jf_RX10_23 (wO mO) rfl ?_
                                  refine j_iconst (v := 1) C dX10_walk_176 rfl ?_
                                  refine j_iald C (1) dX10_walk_177 (wA mA4) (rfl) (by decide) (by decide) ?_
                                  refine j_imul C dX10_walk_178 ?_
                                  refine j_iadd C dX10_walk_179 ?_
                                  refine j_aload_n C dX10_walk_180 rfl rfl ?_
                                  refine j_get C dX10_walk_181 jf_RX10_23 (wO mO) rfl ?_
                                  refine j_iconst (v := 2) C dX10_walk_184 rfl ?_
                                  refine j_iald C (2) dX10_walk_185 (wA mA4) (rfl) (by decide) (by decide) ?_
                                  refine j_iadd C dX10_walk_186 ?_
                                  rw [g0, g1, g2, hw3.2.2]
                                  refine j_istore_n (lv' := [(3, _), (10, _), (8, _), (0, _), (1, _), (2, _), (4, _), (6, _)]) C dX10_walk_187 rfl (by decide) rfl ?_
                                  refine j_lload C dX10_walk_188 rfl ?_
                                  refine j_lstore (lv' := [(4, _), (3, _), (10, _), (8, _), (0, _), (1, _), (2, _), (6, _)]) C dX10_walk_190 (by decide) rfl ?_
                                  refine j_lload C dX10_walk_192 rfl ?_
                                  refine j_lstore (lv' := [(6, _), (4, _), (3, _), (10, _), (8, _), (0, _), (1, _), (2, _)]) C dX10_walk_194 (by decide) rfl ?_
                                  refine j_aload_n C dX10_walk_196 rfl rfl ?_
                                  refine j_get C dX10_walk_197 jf_RX10_23 (wO mO) rfl ?_
                                  refine j_iconst (v := 2) C dX10_walk_200 rfl ?_
                                  refine j_dup2 C dX10_walk_201 rfl rfl ?_
                                  refine j_iald C (2) dX10_walk_202 (wA mA4) (rfl) (by decide) (by decide) ?_
                                  refine j_iconst (v := 1) C dX10_walk_203 rfl ?_
                                  refine j_iadd C dX10_walk_204 ?_
                                  refine j_iast C (2) dX10_walk_205 (wA mA4) (rfl) (by decide) (by decide) (sMa mA4 _ _) ?_
                                  refine j_goto (tgt := 103) C dX10_walk_206 (by decide) ?_
                                  refine j_lv (lv' := [(0, _), (1, _), (2, _), (3, _), (4, _), (6, _)]) rfl ?_
                                  have hst : wkI (tM B N ru) (gV x i) f (wkO (tM B N ru) (gV x i) f) (2 * (u - f) + (v + 1)) = wkT (tM B N ru) (gV x i) f (2 * u + v) (wkI (tM B N ru) (gV x i) f (wkO (tM B N ru) (gV x i) f) (2 * (u - f) + v)) := by
                                    rw [← Nat.add_assoc, wkI_s, show 2 * f + (2 * (u - f) + v) = 2 * u + v by omega]
                                  exact ih3 (v + 1) _ _ _ _ (by omega) (by omega) (wkF_s hW9 (by decide)) (by rw [mU_1, uM_n (by decide)]; exact g0) (by rw [mU_1, uM_n (by decide)]; exact g1) (by rw [mU_1, uM_s, g2, nI_1]) (by rw [hst]; exact wk_y hL3 (by omega) hf2 (by omega) hcc) (fun _ => nI_no1 (by omega))
                        refine j_lv (lv' := [(0, _), (1, _), (2, _), (3, _), (4, _), (6, _)]) rfl ?_
                        exact L_103 3 0 _ _ _ _ (by omega) (by omega) (wkF_s hW2 (by decide)) (by rw [mU_1, uM_n (by decide)]; exact h02) (by rw [mU_1, uM_n (by decide)]; exact h12) (by rw [mU_1, uM_s]; rfl) hL2 (fun h => hN2 (by omega))
                  refine j_lv (lv' := [(0, _), (1, _), (2, _), (3, _), (4, _), (6, _)]) rfl ?_
                  exact L_85 21 f _ _ _ _ (by omega) (by omega) (by omega) (wkF_s hW (by decide)) (by rw [mU_1, uM_n (by decide)]; exact h0) (by rw [mU_1, uM_s]; exact h0) (by rw [Nat.sub_self]; exact hL) (fun h => hN (by omega))
            refine j_lv (lv' := [(0, _), (1, _), (2, _), (3, _), (4, _), (6, _)]) rfl ?_
            exact L_62 21 0 _ _ _ _ (by omega) (by omega) (wkF_s hW0 (by decide)) (by rw [mU_1, uM_s]; rfl) (Or.inl ⟨rfl, rfl, rfl, rfl⟩) (fun h => absurd h (by omega))
          · skip
            have hc : c < 3 := by simp only [Int32.lt_iff_toInt_lt, Int32.le_iff_toInt_le, ← Int32.toInt_inj, Int32.reduceToInt, e_c] at c_26; omega
            refine j_aload_n C dX10_walk_29 rfl rfl ?_
            refine j_get C dX10_walk_30 jf_RX10_38 (wO mO) rfl ?_
            refine j_iload_n C dX10_walk_33 rfl rfl ?_
            refine j_aload_n C dX10_walk_34 rfl rfl ?_
            refine j_get C dX10_walk_35 jf_RX10_23 (wO mO) rfl ?_
            refine j_iload_n C dX10_walk_38 rfl rfl ?_
            refine j_iald C (c) dX10_walk_39 (wA mA4) (rfl) (hc) (by decide) ?_
            refine j_iast C (c) dX10_walk_40 (wA mA9) (rfl) (hc) (by decide) (sMa mA9 _ _) ?_
            refine j_iinc (lv' := [(3, _), (0, _), (1, _), (2, _)]) (v := nI (c + 1)) C dX10_walk_41 rfl (j_inc1 c) (by decide) rfl ?_
            refine j_goto (tgt := 24) C dX10_walk_44 (by decide) ?_
            refine j_lv (lv' := [(0, _), (1, _), (2, _), (3, _)]) rfl ?_
            exact ih0 (c + 1) _ (by omega) (by omega) (fun k hk => by rw [mU_1, uM_ne hk]; exact hF k hk) (fun j hj => by
              by_cases h : j = c
              · subst h; rw [mU_1, uM_s, hF 4 (by decide)]
              · rw [mU_1, uM_n h]; exact hA j (by omega))
      refine j_lv (lv' := [(0, _), (1, _), (2, _), (3, _)]) rfl ?_
      exact L_24 4 0 x (by omega) (by omega) (fun _ _ => rfl) (fun j hj => absurd hj (by omega))
    · skip
      have hc_12 : ¬ (0 ≤ w ∧ w < 2) := fun h => b_12 (by simp only [Int32.lt_iff_toInt_lt, Int32.le_iff_toInt_le, ← Int32.toInt_inj, Int32.reduceToInt, Int64.lt_iff_toInt_lt, Int64.le_iff_toInt_le, Int32.toInt_toInt64, Int64.reduceToInt] at h ⊢; omega)
      refine j_if_ne (tgt := 22) C dX10_walk_15 (by decide) (fun c => absurd (by decide) c) (fun _ => ?_)
      refine j_ldc2 C dX10_walk_18 jc_RX10_349 ?_
      refine hret _ _ _ _ dX10_walk_21 ?_
      exact ⟨(if_neg (fun h => hc_12 h.2)).symm, mKw_r⟩
  · skip
    refine j_if_eq (tgt := 18) C dX10_walk_5 (by decide) (fun _ => ?_) (fun c => absurd (by decide) c)
    refine j_ldc2 C dX10_walk_18 jc_RX10_349 ?_
    refine hret _ _ _ _ dX10_walk_21 ?_
    exact ⟨(if_neg (fun h => b_2 h.1)).symm, mKw_r⟩
