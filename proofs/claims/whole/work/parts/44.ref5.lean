/-! THE REFERENCE READS A TEXT -/
/-- text t is read: n bytes b -/
def rbM (x : mS) (b : Nat → Int32) (n t : Nat) : Prop := x.1 0 17 = nI (160 * t) ∧ t < 6 ∧ x.1 0 18 = nI n ∧ n ≤ 160 ∧ ∀ i, i < n → x.1 1 (160 * t + i) = b i ∧ 0 ≤ b i
/-- the kind of the token at byte q, and where it ends -/
def kdS (b : Nat → Int32) (n q : Nat) : Int32 := if q < n then (if isL (b q) then 1 else if isD (b q) then (if tkE b n q - q ≤ 4 then 2 else 4) else if isS (b q) then 3 else 4) else 0
def hrS (b : Nat → Int32) (n q : Nat) : Nat := if q < n ∧ (isL (b q) ∨ isD (b q) ∨ isS (b q)) then tkE b n q else q
/-- the token at byte q is at hand -/
def tkM (x : mS) (b : Nat → Int32) (n q : Nat) : Prop := x.1 0 21 = nI q ∧ q ≤ n ∧ x.1 0 20 = kdS b n q ∧ x.1 0 19 = nI (hrS b n q) ∧ (kdS b n q = 2 → x.2 = (tkN b n q).toInt64) ∧ (kdS b n q = 3 → x.2 = (b q).toInt64)
def stM (x : mS) (b : Nat → Int32) (n q : Nat) : Prop := x.1 0 24 = 0 ∧ tkM x b n q
/-- nothing but the reader's own slots is new -/
def mF (x z : mS) : Prop := (∀ k, k ≠ 0 → z.1 k = x.1 k) ∧ ∀ j, (j < 19 ∨ 25 < j) → z.1 0 j = x.1 0 j
def nxF (x z : mS) : Prop := (∀ k, k ≠ 0 → z.1 k = x.1 k) ∧ ∀ j, (j < 19 ∨ 22 < j) → z.1 0 j = x.1 0 j
theorem mF_r {x : mS} : mF x x := ⟨fun _ _ => rfl, fun _ _ => rfl⟩
theorem mF_t {x y z : mS} (h : mF x y) (h2 : mF y z) : mF x z := ⟨fun k hk => (h2.1 k hk).trans (h.1 k hk), fun j hj => (h2.2 j hj).trans (h.2 j hj)⟩
theorem nxF_m {x z : mS} (h : nxF x z) : mF x z := ⟨h.1, fun j hj => h.2 j (by omega)⟩
theorem mF_1 {x : mS} {j : Nat} {v : Int32} (hj : 19 ≤ j ∧ j ≤ 25) : mF x (mU x 0 j v) := ⟨fun k hk => by rw [mU_1, uM_ne hk], fun i hi => by rw [mU_1, uM_n (by omega)]⟩
theorem rbM_m {x z : mS} {b : Nat → Int32} {n t : Nat} (h : rbM x b n t) (hf : mF x z) : rbM z b n t := by
  obtain ⟨h1, h2, h3, h4, h5⟩ := h
  exact ⟨by rw [hf.2 17 (by omega)]; exact h1, h2, by rw [hf.2 18 (by omega)]; exact h3, h4, fun i hi => by rw [hf.1 1 (by decide)]; exact h5 i hi⟩
def eM (x : mS) : Nat → Int32 := fun i => if i < 8 then x.1 0 (i + 9) else 0
theorem eM_m {x z : mS} (hf : mF x z) : eM z = eM x := by
  funext i
  unfold eM
  split
  · exact hf.2 _ (by omega)
  · rfl
/-- it fails, if it has not -/
def flM (x : mS) : mS := if x.1 0 24 = 0 then mU (mU x 0 24 1) 0 25 (x.1 0 21) else x
theorem flM_m {x : mS} : mF x (flM x) := by
  unfold flM
  split
  · exact mF_t (mF_1 (by omega)) (mF_1 (by omega))
  · exact mF_r
theorem btS_lt {b : Nat → Int32} {n j : Nat} (h : j < n) : btS b n j = b j := if_pos h
theorem btS_ge {b : Nat → Int32} {n j : Nat} (h : ¬ j < n) : btS b n j = -1 := if_neg h
theorem enR_y {b : Nat → Int32} {n j : Nat} {lw hi : Int32} (h : j < n) (h2 : lw ≤ b j ∧ b j ≤ hi) : enR b n lw hi j = enR b n lw hi (j + 1) := ruP_y h h2
theorem enR_n {b : Nat → Int32} {n j : Nat} {lw hi : Int32} (h : ¬ (j < n ∧ lw ≤ b j ∧ b j ≤ hi)) : enR b n lw hi j = j := ruP_n h
theorem skS_y {b : Nat → Int32} {n j : Nat} (h : j < n) (h2 : isB (b j)) : skS b n j = skS b n (j + 1) := ruP_y h h2
theorem skS_n {b : Nat → Int32} {n j : Nat} (h : ¬ (j < n ∧ isB (b j))) : skS b n j = j := ruP_n h
theorem bt_in {b : Nat → Int32} {n j : Nat} {lw hi : Int32} (h0 : 0 ≤ lw) (h : lw ≤ btS b n j ∧ btS b n j ≤ hi) : j < n ∧ lw ≤ b j ∧ b j ≤ hi := by
  by_cases hj : j < n
  · rw [btS_lt hj] at h; exact ⟨hj, h⟩
  · rw [btS_ge hj] at h
    have h1 := h.1
    simp only [Int32.le_iff_toInt_le, Int32.reduceToInt] at h0 h1
    have : (-1 : Int32).toInt = -1 := rfl
    omega
theorem bt_no {b : Nat → Int32} {n j : Nat} {lw hi : Int32} (h : ¬ (lw ≤ btS b n j ∧ btS b n j ≤ hi)) : ¬ (j < n ∧ lw ≤ b j ∧ b j ≤ hi) := fun h2 => h (by rw [btS_lt h2.1]; exact h2.2)
theorem ruP_in {P : Int32 → Prop} [DecidablePred P] {b : Nat → Int32} {n : Nat} : ∀ f p j, p ≤ j → j < ruP P b n f p → P (b j)
  | 0, p, j, h1, h2 => by rw [ruP] at h2; omega
  | f + 1, p, j, h1, h2 => by
    rw [ruP] at h2
    split at h2
    · rename_i hc
      by_cases e : j = p
      · rw [e]; exact hc.2
      · exact ruP_in f (p + 1) j (by omega) h2
    · omega
/-- a number of at most four digits -/
theorem nu_in {b : Nat → Int32} {q : Nat} : ∀ c, c ≤ 4 → (∀ i, i < c → isD (b (q + i))) → 0 ≤ (nuS b q c).toInt ∧ (nuS b q c).toInt < 10 ^ c
  | 0, _, _ => by simp [nuS]
  | c + 1, hc, hd => by
    have h := nu_in c (by omega) (fun i hi => hd i (by omega))
    have hb := hd c (by omega)
    simp only [isD, Int32.le_iff_toInt_le, Int32.reduceToInt] at hb
    have hp : (10 : Int) ^ c ≤ 1000 := by
      have : c = 0 ∨ c = 1 ∨ c = 2 ∨ c = 3 := by omega
      rcases this with rfl | rfl | rfl | rfl <;> decide
    have e : (nuS b q (c + 1)).toInt = (nuS b q c).toInt * 10 + (b (q + c)).toInt - 48 := by
      rw [nuS]
      have e1 : (nuS b q c * 10).toInt = (nuS b q c).toInt * 10 := by
        rw [Int32.toInt_mul, Int.bmod_eq_of_le] <;> simp <;> omega
      have e2 : (nuS b q c * 10 + b (q + c)).toInt = (nuS b q c).toInt * 10 + (b (q + c)).toInt := by
        rw [i32_add] <;> rw [e1] <;> omega
      rw [i32_sub] <;> rw [e2] <;> simp <;> omega
    rw [e, Int.pow_succ]
    omega
theorem nu_l {b : Nat → Int32} {q c : Nat} (hc : c < 4) (hd : ∀ i, i < c + 1 → isD (b (q + i))) : (10 : Int64) * (nuS b q c).toInt64 + (b (q + c)).toInt64 - 48 = (nuS b q (c + 1)).toInt64 := by
  have h := nu_in (b := b) (q := q) c (by omega) (fun i hi => hd i (by omega))
  have hb := hd c (by omega)
  simp only [isD, Int32.le_iff_toInt_le, Int32.reduceToInt] at hb
  have hp : (10 : Int) ^ c ≤ 1000 := by
    have : c = 0 ∨ c = 1 ∨ c = 2 ∨ c = 3 := by omega
    rcases this with rfl | rfl | rfl | rfl <;> decide
  have e1 : (nuS b q c * 10).toInt = (nuS b q c).toInt * 10 := by
    rw [Int32.toInt_mul, Int.bmod_eq_of_le] <;> simp <;> omega
  have e2 : (nuS b q c * 10 + b (q + c)).toInt = (nuS b q c).toInt * 10 + (b (q + c)).toInt := by
    rw [i32_add] <;> rw [e1] <;> omega
  have e3 : (nuS b q (c + 1)).toInt = (nuS b q c).toInt * 10 + (b (q + c)).toInt - 48 := by
    rw [nuS, i32_sub] <;> rw [e2] <;> simp <;> omega
  apply Int64.toInt_inj.mp
  rw [Int32.toInt_toInt64, e3]
  have f1 : ((10 : Int64) * (nuS b q c).toInt64).toInt = 10 * (nuS b q c).toInt := by
    rw [Int64.toInt_mul, Int32.toInt_toInt64, Int.bmod_eq_of_le] <;> simp <;> omega
  have f2 : ((10 : Int64) * (nuS b q c).toInt64 + (b (q + c)).toInt64).toInt = 10 * (nuS b q c).toInt + (b (q + c)).toInt := by
    rw [Int64.toInt_add, f1, Int32.toInt_toInt64, Int.bmod_eq_of_le] <;> omega
  rw [Int64.toInt_sub, f2, Int.bmod_eq_of_le] <;> simp <;> omega
-- TOKENS AT HAND
theorem kd_L {b : Nat → Int32} {n q : Nat} (h : kdS b n q = 1) : q < n ∧ isL (b q) := by
  unfold kdS at h
  split at h
  · rename_i h1
    split at h
    · rename_i h2; exact ⟨h1, h2⟩
    · split at h
      · split at h <;> exact absurd h (by decide)
      · split at h <;> exact absurd h (by decide)
  · exact absurd h (by decide)
theorem hr_L {b : Nat → Int32} {n q : Nat} (h : q < n ∧ isL (b q)) : hrS b n q = enR b n 97 122 q := by
  rw [hrS, if_pos ⟨h.1, Or.inl h.2⟩, tkE, if_pos h.2]
theorem woF_in {l : List Int32} : ∀ k w0, (∃ w, woF l k w0 = nI w ∧ w0 ≤ w ∧ w < w0 + k ∧ l = sByt.getD w []) ∨ (woF l k w0 = 15 ∧ ∀ w, w0 ≤ w → w < w0 + k → l ≠ sByt.getD w [])
  | 0, _ => Or.inr ⟨rfl, fun w h1 h2 => absurd h2 (by omega)⟩
  | k + 1, w0 => by
    rw [woF]
    by_cases h : l = sByt.getD w0 []
    · rw [if_pos h]; exact Or.inl ⟨w0, rfl, by omega, by omega, h⟩
    · rw [if_neg h]
      rcases woF_in (l := l) k (w0 + 1) with ⟨w, e, h1, h2, h3⟩ | ⟨e, h1⟩
      · exact Or.inl ⟨w, e, by omega, by omega, h3⟩
      · refine Or.inr ⟨e, fun w h2 h3 => ?_⟩
        by_cases e2 : w = w0
        · subst e2; exact h
        · exact h1 w (by omega) (by omega)
theorem woF_w {l : List Int32} {w : Nat} (hw : 1 ≤ w ∧ w ≤ 12) : woF l 12 1 = nI w ↔ l = sByt.getD w [] := by
  have hc : w = 1 ∨ w = 2 ∨ w = 3 ∨ w = 4 ∨ w = 5 ∨ w = 6 ∨ w = 7 ∨ w = 8 ∨ w = 9 ∨ w = 10 ∨ w = 11 ∨ w = 12 := by omega
  constructor
  · intro h
    rcases woF_in (l := l) 12 1 with ⟨w', e, h1, h2, h3⟩ | ⟨e, h1⟩
    · have := (nI_eq (a := w') (b := w) (by omega) (by omega)).mp (e.symm.trans h)
      subst this; exact h3
    · have := (nI_eq (a := 15) (b := w) (by omega) (by omega)).mp (e.symm.trans h)
      omega
  · intro h
    rcases hc with rfl | rfl | rfl | rfl | rfl | rfl | rfl | rfl | rfl | rfl | rfl | rfl <;> rw [h] <;> decide
/-- the word at hand has these letters -/
abbrev liP (b : Nat → Int32) (q E i : Nat) (c : Int32) : Prop := (q + i < E ∧ b (q + i) = c) ∨ (¬ q + i < E ∧ c = 0)
theorem li_all {b : Nat → Int32} {q E : Nat} {L : List Int32} (h0 : ∀ i, i < L.length → L.getD i 0 ≠ 0) (hL : L.length ≤ 8) (hr : ∀ j, q ≤ j → j < E → b j ≠ 0) (hq : q ≤ E) : (E ≤ q + 8 ∧ ∀ i, i < 8 → liP b q E i (L.getD i 0)) ↔ slS b q E = L := by
  constructor
  · rintro ⟨h8, h⟩
    have hlen : E - q = L.length := by
      have h1 : ¬ E - q < L.length := fun hlt => by
        rcases h (E - q) (by omega) with ⟨k, _⟩ | ⟨_, k⟩
        · omega
        · exact h0 _ hlt k
      have h2 : ¬ L.length < E - q := fun hlt => by
        rcases h L.length (by omega) with ⟨k, k2⟩ | ⟨k, _⟩
        · refine hr (q + L.length) (by omega) k (k2.trans ?_)
          simp
        · omega
      omega
    apply List.ext_getElem?
    intro i
    by_cases hi : i < L.length
    · rcases h i (by omega) with ⟨_, k⟩ | ⟨k, _⟩
      · rw [slS, List.getElem?_map, List.getElem?_range (by omega)]
        simp only [Option.map_some]
        rw [k, List.getD_eq_getElem?_getD, List.getElem?_eq_getElem hi]; rfl
      · omega
    · rw [List.getElem?_eq_none (by rw [slS_len]; omega), List.getElem?_eq_none (by omega)]
  · intro h
    have hl : E - q = L.length := by rw [← h, slS_len]
    refine ⟨by omega, fun i hi => ?_⟩
    by_cases hi2 : i < L.length
    · refine Or.inl ⟨by omega, ?_⟩
      rw [← h, slS, List.getD_eq_getElem?_getD, List.getElem?_map, List.getElem?_range (by omega)]; rfl
    · refine Or.inr ⟨by omega, ?_⟩
      rw [List.getD_eq_getElem?_getD, List.getElem?_eq_none (by omega)]; rfl
theorem sB_n {w : Nat} (hw : 1 ≤ w ∧ w ≤ 12) : (∀ i, i < (sByt.getD w []).length → (sByt.getD w []).getD i 0 ≠ 0) ∧ (sByt.getD w []).length ≤ 8 := by
  have hc : w = 1 ∨ w = 2 ∨ w = 3 ∨ w = 4 ∨ w = 5 ∨ w = 6 ∨ w = 7 ∨ w = 8 ∨ w = 9 ∨ w = 10 ∨ w = 11 ∨ w = 12 := by omega
  rcases hc with rfl | rfl | rfl | rfl | rfl | rfl | rfl | rfl | rfl | rfl | rfl | rfl <;> exact ⟨by decide, by decide⟩
theorem wo_c {l : List Int32} : ∃ w, woF l 12 1 = nI w ∧ (1 ≤ w ∧ w ≤ 12 ∨ w = 15) := by
  rcases woF_in (l := l) 12 1 with ⟨w, e, h1, h2, _⟩ | ⟨e, _⟩
  · exact ⟨w, e, Or.inl (by omega)⟩
  · exact ⟨15, e, Or.inr rfl⟩
/-- what the token at psS p is -/
theorem tc_lt {b : Nat → Int32} {n p : Nat} (h : psS b n p < n) : tcS b n p = tkC b n (psS b n p) := if_pos h
theorem tc_end {b : Nat → Int32} {n p : Nat} (h : ¬ psS b n p < n) : tcS b n p = 14 := if_neg h
theorem tkC_L {b : Nat → Int32} {n q : Nat} (h : isL (b q)) : tkC b n q = woS b q (enR b n 97 122 q) := by rw [tkC, if_pos h, tkE, if_pos h]
theorem tkC_D {b : Nat → Int32} {n q : Nat} (h : ¬ isL (b q)) (h2 : isD (b q)) : tkC b n q = (if tkE b n q - q ≤ 4 then 13 else 15) := by rw [tkC, if_neg h, if_pos h2]
theorem tkC_S {b : Nat → Int32} {n q : Nat} (h : ¬ isL (b q)) (h2 : ¬ isD (b q)) : tkC b n q = if isS (b q) then b q else 15 := by rw [tkC, if_neg h, if_neg h2]
theorem sg_ge {s : Int32} (h : isS s) : 40 ≤ s ∧ s ≤ 61 := by rcases h with rfl | rfl | rfl | rfl | rfl | rfl | rfl | rfl <;> decide
theorem sg_L {s : Int32} (h : isS s) : ¬ isL s ∧ ¬ isD s := by rcases h with rfl | rfl | rfl | rfl | rfl | rfl | rfl | rfl <;> decide
theorem nI_ne40 {w : Nat} {s : Int32} (h : 1 ≤ w ∧ w ≤ 12 ∨ w = 15) (hs : isS s) : ¬ nI w = s := fun e => by
  have h1 := (sg_ge hs).1
  rw [← e] at h1
  simp only [Int32.le_iff_toInt_le, Int32.reduceToInt, nI_toInt (show w < 2147483648 by omega)] at h1
  omega
theorem kd_sg {b : Nat → Int32} {n p : Nat} {s : Int32} (hs : isS s) : (kdS b n (psS b n p) = 3 ∧ (b (psS b n p)).toInt64 = s.toInt64) ↔ tcS b n p = s := by
  generalize hq : psS b n p = q
  have hc : tcS b n p = if q < n then tkC b n q else 14 := by rw [← hq]; rfl
  rw [hc]
  unfold kdS
  by_cases h1 : q < n
  · rw [if_pos h1, if_pos h1]
    by_cases h2 : isL (b q)
    · rw [if_pos h2, tkC_L h2]
      obtain ⟨w, e, hw⟩ := wo_c (l := slS b q (enR b n 97 122 q))
      constructor
      · rintro ⟨h, _⟩; exact absurd h (by decide)
      · intro h; rw [woS, e] at h; exact absurd h (nI_ne40 hw hs)
    · rw [if_neg h2]
      by_cases h3 : isD (b q)
      · rw [if_pos h3, tkC_D h2 h3]
        constructor
        · rintro ⟨h, _⟩; split at h <;> exact absurd h (by decide)
        · intro h; split at h <;> exact absurd (sg_ge hs).1 (by rw [← h]; decide)
      · rw [if_neg h3, tkC_S h2 h3]
        by_cases h4 : isS (b q)
        · rw [if_pos h4, if_pos h4]
          constructor
          · rintro ⟨_, h⟩
            have := congrArg Int64.toInt h
            rw [Int32.toInt_toInt64, Int32.toInt_toInt64] at this
            exact Int32.toInt_inj.mp this
          · intro h; rw [h]; exact ⟨rfl, rfl⟩
        · rw [if_neg h4, if_neg h4]
          constructor
          · rintro ⟨h, _⟩; exact absurd h (by decide)
          · intro h; exact absurd (sg_ge hs).1 (by rw [← h]; decide)
  · rw [if_neg h1, if_neg h1]
    constructor
    · rintro ⟨h, _⟩; exact absurd h (by decide)
    · intro h; exact absurd (sg_ge hs).1 (by rw [← h]; decide)
theorem kd_wd {b : Nat → Int32} {n p w : Nat} (hw : 1 ≤ w ∧ w ≤ 12) : (kdS b n (psS b n p) = 1 ∧ hrS b n (psS b n p) ≤ psS b n p + 8 ∧ ∀ i, i < 8 → liP b (psS b n p) (hrS b n (psS b n p)) i ((sByt.getD w []).getD i 0)) ↔ tcS b n p = nI w := by
  generalize hq : psS b n p = q
  have hc : tcS b n p = if q < n then tkC b n q else 14 := by rw [← hq]; rfl
  rw [hc]
  have hlt : (nI w).toInt = w := nI_toInt (by omega)
  by_cases h1 : q < n
  · rw [if_pos h1]
    by_cases h2 : isL (b q)
    · have hk : kdS b n q = 1 := by rw [kdS, if_pos h1, if_pos h2]
      rw [tkC_L h2, hr_L ⟨h1, h2⟩, woS, woF_w hw]
      have hr : ∀ j, q ≤ j → j < enR b n 97 122 q → b j ≠ 0 := fun j h3 h4 h5 => by
        have h6 : 97 ≤ b j ∧ b j ≤ 122 := ruP_in (P := fun v => (97 : Int32) ≤ v ∧ v ≤ 122) _ _ _ h3 h4
        rw [h5] at h6; exact absurd h6.1 (by decide)
      rw [← li_all (sB_n hw).1 (sB_n hw).2 hr enR_le.1]
      exact ⟨fun h => h.2, fun h => ⟨hk, h⟩⟩
    · constructor
      · rintro ⟨h, _⟩; exact absurd (kd_L h).2 h2
      · intro h
        have h3 := congrArg Int32.toInt h
        rw [hlt] at h3
        by_cases h4 : isD (b q)
        · rw [tkC_D h2 h4] at h3
          split at h3 <;> simp only [Int32.reduceToInt] at h3 <;> omega
        · rw [tkC_S h2 h4] at h3
          split at h3
          · rename_i h5
            have := (sg_ge h5).1
            simp only [Int32.le_iff_toInt_le, Int32.reduceToInt] at this; omega
          · simp only [Int32.reduceToInt] at h3; omega
  · rw [if_neg h1]
    constructor
    · rintro ⟨h, _⟩; exact absurd (kd_L h).1 h1
    · intro h
      have h3 := congrArg Int32.toInt h
      rw [hlt] at h3; simp only [Int32.reduceToInt] at h3; omega
theorem kd_nu {b : Nat → Int32} {n p : Nat} : kdS b n (psS b n p) = 2 ↔ tcS b n p = 13 := by
  generalize hq : psS b n p = q
  have hc : tcS b n p = if q < n then tkC b n q else 14 := by rw [← hq]; rfl
  rw [hc]
  unfold kdS
  by_cases h1 : q < n
  · rw [if_pos h1, if_pos h1]
    by_cases h2 : isL (b q)
    · rw [if_pos h2, tkC_L h2]
      obtain ⟨w, e, hw⟩ := wo_c (l := slS b q (enR b n 97 122 q))
      rw [woS, e]
      constructor
      · intro h; exact absurd h (by decide)
      · intro h
        have := (nI_eq (a := w) (b := 13) (by omega) (by omega)).mp h
        omega
    · rw [if_neg h2]
      by_cases h3 : isD (b q)
      · rw [if_pos h3, tkC_D h2 h3]
        split
        · exact ⟨fun _ => rfl, fun _ => rfl⟩
        · exact ⟨fun h => absurd h (by decide), fun h => absurd h (by decide)⟩
      · rw [if_neg h3, tkC_S h2 h3]
        by_cases h4 : isS (b q)
        · rw [if_pos h4, if_pos h4]
          exact ⟨fun h => absurd h (by decide), fun h => absurd (sg_ge h4).1 (by rw [h]; decide)⟩
        · rw [if_neg h4, if_neg h4]
          exact ⟨fun h => absurd h (by decide), fun h => absurd h (by decide)⟩
  · rw [if_neg h1, if_neg h1]
    exact ⟨fun h => absurd h (by decide), fun h => absurd h (by decide)⟩
/-- a token that can be passed -/
theorem tc_ok {b : Nat → Int32} {n p : Nat} (h : ¬ tcS b n p = 14) (h2 : ¬ tcS b n p = 15) : psS b n p < n ∧ (isL (b (psS b n p)) ∨ isD (b (psS b n p)) ∨ isS (b (psS b n p))) := by
  have h1 : psS b n p < n := by
    rcases Nat.lt_or_ge (psS b n p) n with k | k
    · exact k
    · exact absurd (tc_end (by omega)) h
  refine ⟨h1, ?_⟩
  rw [tc_lt h1] at h2
  by_cases k1 : isL (b (psS b n p))
  · exact Or.inl k1
  by_cases k2 : isD (b (psS b n p))
  · exact Or.inr (Or.inl k2)
  rw [tkC_S k1 k2] at h2
  by_cases k3 : isS (b (psS b n p))
  · exact Or.inr (Or.inr k3)
  · rw [if_neg k3] at h2; exact absurd rfl h2
theorem hr_ok {b : Nat → Int32} {n p : Nat} (h : ¬ tcS b n p = 14) (h2 : ¬ tcS b n p = 15) : hrS b n (psS b n p) = tkE b n (psS b n p) ∧ psS b n p < n ∧ skS b n (tkE b n (psS b n p)) = psS b n (p + 1) := by
  have h3 := tc_ok h h2
  exact ⟨by rw [hrS, if_pos h3], h3.1, by rw [psS, if_pos h3.1]⟩
theorem hr_le {b : Nat → Int32} {n q : Nat} (h : q ≤ n) : q ≤ hrS b n q ∧ hrS b n q ≤ n := by
  unfold hrS
  split
  · rename_i h1; have := tkE_gt (b := b) h1.1; omega
  · omega
theorem tc_n {b : Nat → Int32} {n : Nat} : ∀ k, n ≤ k → tcS b n k = 14 := fun k hk => by
  apply tc_end
  intro h
  have := psS_ge k h
  omega
/-- a word at hand, whichever -/
theorem kd_w2 {b : Nat → Int32} {n p : Nat} (h : kdS b n (psS b n p) = 1) : ∃ w, tcS b n p = nI w ∧ (1 ≤ w ∧ w ≤ 12 ∨ w = 15) := by
  have h1 := kd_L h
  obtain ⟨w, e, hw⟩ := wo_c (l := slS b (psS b n p) (enR b n 97 122 (psS b n p)))
  exact ⟨w, by rw [tc_lt h1.1, tkC_L h1.2, woS, e], hw⟩
theorem tc_name {b : Nat → Int32} {n p : Nat} (h : 1 ≤ tcS b n p ∧ tcS b n p ≤ 12) : kdS b n (psS b n p) = 1 := by
  obtain ⟨w, hw, e⟩ := nI_of (x := tcS b n p) (by have := h.1; simp only [Int32.lt_iff_toInt_lt, Int32.le_iff_toInt_le, Int32.reduceToInt] at this ⊢; omega)
  have hlt : (nI w).toInt = w := nI_toInt hw
  rw [e] at h
  simp only [Int32.le_iff_toInt_le, Int32.reduceToInt, hlt] at h
  exact ((kd_wd (b := b) (n := n) (p := p) (w := w) (by omega)).mpr e).1
theorem bt_B {b : Nat → Int32} {n j : Nat} (h : btS b n j = 32 ∨ btS b n j = 10) : j < n ∧ isB (b j) := by
  by_cases hj : j < n
  · rw [btS_lt hj] at h; exact ⟨hj, h⟩
  · rw [btS_ge hj] at h; exact absurd h (by decide)
/-- here stands at i, the token of kind kd began at q -/
def stg (x y : mS) (i : Nat) (kd : Int32) (q : Nat) : Prop := nxF x y ∧ y.1 0 19 = nI i ∧ y.1 0 20 = kd ∧ y.1 0 21 = nI q
def hFd (x y : mS) (j : Nat) : Prop := (∀ k, k ≠ 0 → y.1 k = x.1 k) ∧ (∀ i, i ≠ 19 → y.1 0 i = x.1 0 i) ∧ y.1 0 19 = nI j
theorem hFd_m {x y : mS} {j : Nat} (h : hFd x y j) : mF x y := ⟨h.1, fun i hi => h.2.1 i (by omega)⟩
theorem hFd_i {x y : mS} {j : Nat} (h : hFd x y j) : hFd x (mU y 0 19 (y.1 0 19 + 1)) (j + 1) := ⟨fun k hk => by rw [mU_1, uM_ne hk]; exact h.1 k hk, fun i hi => by rw [mU_1, uM_n hi]; exact h.2.1 i hi, by rw [mU_1, uM_s, h.2.2, nI_1]⟩
theorem stg_0 {x y : mS} {j : Nat} (h : hFd x y j) : stg x (mU (mU y 0 21 (y.1 0 19)) 0 20 4) j 4 j := by
  refine ⟨⟨fun k hk => ?_, fun i hi => ?_⟩, ?_, ?_, ?_⟩
  · rw [mU_1, uM_ne hk, mU_1, uM_ne hk]; exact h.1 k hk
  · rw [mU_1, uM_n (by omega), mU_1, uM_n (by omega)]; exact h.2.1 i (by omega)
  · rw [mU_1, uM_n (by decide), mU_1, uM_n (by decide)]; exact h.2.2
  · rw [mU_1, uM_s]
  · rw [mU_1, uM_n (by decide), mU_1, uM_s]; exact h.2.2
theorem stg_k {x y : mS} {i q : Nat} {kd v : Int32} (h : stg x y i kd q) : stg x (mU y 0 20 v) i v q := by
  refine ⟨⟨fun k hk => ?_, fun i hi => ?_⟩, ?_, ?_, ?_⟩
  · rw [mU_1, uM_ne hk]; exact h.1.1 k hk
  · rw [mU_1, uM_n (by omega)]; exact h.1.2 i hi
  · rw [mU_1, uM_n (by decide)]; exact h.2.1
  · rw [mU_1, uM_s]
  · rw [mU_1, uM_n (by decide)]; exact h.2.2.2
theorem stg_w {x y : mS} {i q : Nat} {kd : Int32} {w : Int64} (h : stg x y i kd q) : stg x (y.1, w) i kd q := h
theorem stg_i {x y : mS} {i q : Nat} {kd : Int32} (h : stg x y i kd q) : stg x (mU y 0 19 (y.1 0 19 + 1)) (i + 1) kd q := by
  refine ⟨⟨fun k hk => ?_, fun i hi => ?_⟩, ?_, ?_, ?_⟩
  · rw [mU_1, uM_ne hk]; exact h.1.1 k hk
  · rw [mU_1, uM_n (by omega)]; exact h.1.2 i hi
  · rw [mU_1, uM_s, h.2.1, nI_1]
  · rw [mU_1, uM_n (by decide)]; exact h.2.2.1
  · rw [mU_1, uM_n (by decide)]; exact h.2.2.2
theorem fin_E {x y : mS} {b : Nat → Int32} {n j : Nat} {kd : Int32} (h : stg x y j kd j) (hj : j = n) (h18 : x.1 0 18 = nI n) : nxF x (mU (mU y 0 20 0) 0 21 ((mU y 0 20 0).1 0 18)) ∧ tkM (mU (mU y 0 20 0) 0 21 ((mU y 0 20 0).1 0 18)) b n j := by
  subst hj
  have e18 : (mU y 0 20 0).1 0 18 = nI j := by rw [mU_1, uM_n (by decide), h.1.2 18 (by decide)]; exact h18
  have hk : kdS b j j = 0 := by rw [kdS, if_neg (by omega)]
  rw [e18]
  refine ⟨⟨fun k hk => ?_, fun i hi => ?_⟩, ?_, Nat.le_refl _, ?_, ?_, fun h => ?_, fun h => ?_⟩
  · rw [mU_1, uM_ne hk, mU_1, uM_ne hk]; exact h.1.1 k hk
  · rw [mU_1, uM_n (by omega), mU_1, uM_n (by omega)]; exact h.1.2 i hi
  · rw [mU_1, uM_s]
  · rw [mU_1, uM_n (by decide), mU_1, uM_s, hk]
  · rw [mU_1, uM_n (by decide), mU_1, uM_n (by decide), h.2.1, hrS, if_neg (by omega)]
  · rw [hk] at h; exact absurd h (by decide)
  · rw [hk] at h; exact absurd h (by decide)
theorem fin_L {x y : mS} {b : Nat → Int32} {n i j : Nat} (h : stg x y i 1 j) (hj : j < n) (hL : isL (b j)) (he : enR b n 97 122 j = i) : nxF x y ∧ tkM y b n j := by
  have hk : kdS b n j = 1 := by rw [kdS, if_pos hj, if_pos hL]
  refine ⟨h.1, h.2.2.2, by omega, h.2.2.1.trans hk.symm, ?_, fun h => ?_, fun h => ?_⟩
  · rw [h.2.1, hr_L ⟨hj, hL⟩, he]
  · rw [hk] at h; exact absurd h (by decide)
  · rw [hk] at h; exact absurd h (by decide)
theorem fin_D {x y : mS} {b : Nat → Int32} {n c j : Nat} {kd : Int32} (h : stg x y (j + c) kd j) (hj : j < n) (hL : ¬ isL (b j)) (hD : isD (b j)) (he : enR b n 48 57 j = j + c) (hkd : kd = if c ≤ 4 then 2 else 4) (hw : c ≤ 4 → y.2 = (nuS b j c).toInt64) : nxF x y ∧ tkM y b n j := by
  have ht : tkE b n j = j + c := by rw [tkE, if_neg hL, if_pos hD, he]
  have hk : kdS b n j = if c ≤ 4 then 2 else 4 := by rw [kdS, if_pos hj, if_neg hL, if_pos hD, ht, Nat.add_sub_cancel_left]
  refine ⟨h.1, h.2.2.2, by omega, (h.2.2.1.trans hkd).trans hk.symm, ?_, fun h => ?_, fun h => ?_⟩
  · rw [h.2.1, hrS, if_pos ⟨hj, Or.inr (Or.inl hD)⟩, ht]
  · rw [hk] at h
    have h4 : c ≤ 4 := by
      rcases Nat.lt_or_ge 4 c with k | k
      · rw [if_neg (by omega)] at h; exact absurd h (by decide)
      · exact k
    rw [hw h4, tkN, if_pos ⟨hL, hD⟩, ht, Nat.add_sub_cancel_left]
  · rw [hk] at h; split at h <;> exact absurd h (by decide)
theorem fin_S {x y : mS} {b : Nat → Int32} {n j : Nat} (h : stg x y (j + 1) 3 j) (hj : j < n) (hL : ¬ isL (b j)) (hD : ¬ isD (b j)) (hS : isS (b j)) (hw : y.2 = (b j).toInt64) : nxF x y ∧ tkM y b n j := by
  have hk : kdS b n j = 3 := by rw [kdS, if_pos hj, if_neg hL, if_neg hD, if_pos hS]
  refine ⟨h.1, h.2.2.2, by omega, h.2.2.1.trans hk.symm, ?_, fun h => ?_, fun _ => hw⟩
  · rw [h.2.1, hrS, if_pos ⟨hj, Or.inr (Or.inr hS)⟩, tkE, if_neg hL, if_neg hD]
  · rw [hk] at h; exact absurd h (by decide)
theorem fin_W {x y : mS} {b : Nat → Int32} {n j : Nat} (h : stg x y j 4 j) (hj : j < n) (hL : ¬ isL (b j)) (hD : ¬ isD (b j)) (hS : ¬ isS (b j)) : nxF x y ∧ tkM y b n j := by
  have hk : kdS b n j = 4 := by rw [kdS, if_pos hj, if_neg hL, if_neg hD, if_neg hS]
  refine ⟨h.1, h.2.2.2, by omega, h.2.2.1.trans hk.symm, ?_, fun h => ?_, fun h => ?_⟩
  · rw [h.2.1, hrS, if_neg (fun h => h.2.elim hL (fun k => k.elim hD hS))]
  · rw [hk] at h; exact absurd h (by decide)
  · rw [hk] at h; exact absurd h (by decide)

set_option maxHeartbeats 4000000 in
set_option maxRecDepth 100000 in
theorem c_X10_byteAt (l : Launch) (g : jG) (a : Nat → Nat) (x : mS) (i : Int32) (b : Nat → Int32) (n t : Nat) (j : Nat) (hrb : rbM x b n t) (hi : i = nI j) (hj : j ≤ 1000) : Ci l g yX10_byteAt cX10_byteAt 2 .int 0 0 0 0 (mW g a) [.ref (a 0), .int i] x (fun r z => r = btS b n j ∧ z = x) := by
  refine mk_i (by decide +kernel) rfl (fun KK hKl hKg C hin hret => ?_)
  subst hKl; subst hKg
  refine j_lv (lv' := [(0, _), (1, _)]) rfl ?_
  subst hi
  have e_j : (nI j).toInt = j := nI_toInt (by omega)
  have hn160 := hrb.2.2.2.1
  have ht6 := hrb.2.1
  have e_n : (x.1 0 18).toInt = n := by rw [hrb.2.2.1]; exact nI_toInt (by omega)
  refine j_iload_n C dX10_byteAt_0 rfl rfl ?_
  refine j_aload_n C dX10_byteAt_1 rfl rfl ?_
  refine j_get C dX10_byteAt_2 jf_RX10_114 (wO mO) rfl ?_
  refine j_icmp_ge (tgt := 22) C dX10_byteAt_5 (by decide) (fun c_5 => ?_) (fun c_5 => ?_)
  · skip
    have hjn : ¬ j < n := by simp only [Int32.lt_iff_toInt_lt, Int32.le_iff_toInt_le, ← Int32.toInt_inj, Int32.reduceToInt, e_j, e_n] at c_5; omega
    refine j_iconst (v := -1) C dX10_byteAt_22 rfl ?_
    refine hret _ _ _ _ dX10_byteAt_23 rfl ?_
    first | exact ⟨(btS_ge hjn).symm, rfl⟩ | exact ⟨by rw [btS_lt hjn]; exact (hrb.2.2.2.2 j hjn).1, rfl⟩
  · skip
    have hjn : j < n := by simp only [Int32.lt_iff_toInt_lt, Int32.le_iff_toInt_le, ← Int32.toInt_inj, Int32.reduceToInt, e_j, e_n] at c_5; omega
    refine j_aload_n C dX10_byteAt_8 rfl rfl ?_
    refine j_get C dX10_byteAt_9 jf_RX10_13 (wO mO) rfl ?_
    refine j_aload_n C dX10_byteAt_12 rfl rfl ?_
    refine j_get C dX10_byteAt_13 jf_RX10_117 (wO mO) rfl ?_
    refine j_iload_n C dX10_byteAt_16 rfl rfl ?_
    refine j_iadd C dX10_byteAt_17 ?_
    refine j_iald C (160 * t + j) dX10_byteAt_18 (wA mA1) (by rw [hrb.1]; exact nI_add _ _) (by omega) (by decide) ?_
    refine j_goto (tgt := 23) C dX10_byteAt_19 (by decide) ?_
    refine hret _ _ _ _ dX10_byteAt_23 rfl ?_
    first | exact ⟨(btS_ge hjn).symm, rfl⟩ | exact ⟨by rw [btS_lt hjn]; exact (hrb.2.2.2.2 j hjn).1, rfl⟩
set_option maxHeartbeats 4000000 in
set_option maxRecDepth 100000 in
theorem c_X10_next (l : Launch) (g : jG) (a : Nat → Nat) (x : mS)  (b : Nat → Int32) (n t : Nat) (h : Nat) (hrb : rbM x b n t) (hh : x.1 0 19 = nI h) (hhn : h ≤ n) : Cv l g yX10_next cX10_next 3 1 25 0 0 (mW g a) [.ref (a 0)] x (fun z => nxF x z ∧ tkM z b n (skS b n h)) := by
  refine mk_v (by decide +kernel) rfl (fun KK hKl hKg C hin hret => ?_)
  subst hKl; subst hKg
  refine j_lv (lv' := [(0, _)]) rfl ?_
  have hn160 := hrb.2.2.2.1
  have L_0 : ∀ k : Nat, ∀ (j : Nat) (x' : mS), j ≤ n → n < j + k → hFd x x' j → skS b n j = skS b n h → J KK (mW (kG KK) a) 0 0 x' [(0, .ref (a 0))] 0 [] := by
    intro k
    induction k with
    | zero => intro j x' h1 hk hf hsk; omega
    | succ k ih =>
      intro j x' h1 hk hf hsk
      have hrb' : rbM x' b n t := rbM_m hrb (hFd_m hf)
      refine j_aload_n C dX10_next_0 rfl rfl ?_
      refine j_aload_n C dX10_next_1 rfl rfl ?_
      refine j_get C dX10_next_2 jf_RX10_120 (wO mO) rfl ?_
      refine j_calliv C (c_X10_byteAt _ _ _ _ _ b n t j hrb' hf.2.2 (by omega)) dX10_next_5 jm_RX10_123 ⟨_, _, _, _, wO mO, rfl, rfl⟩ ⟨by decide, by decide, by decide, by decide⟩ rfl (Nat.le_of_ble_eq_true rfl) (fun r z hz => ?_)
      obtain ⟨hr, hz⟩ := hz; have hr := hr.symm; have hz := hz.symm; subst hr; subst hz
      refine j_bipush (v := 32) C dX10_next_8 rfl ?_
      refine j_icmp_eq (tgt := 26) C dX10_next_10 (by decide) (fun c_10 => ?_) (fun c_10 => ?_)
      · skip
        have hB := bt_B (Or.inl c_10)
        refine j_aload_n C dX10_next_26 rfl rfl ?_
        refine j_dup C dX10_next_27 rfl ?_
        refine j_get C dX10_next_28 jf_RX10_120 (wO mO) rfl ?_
        refine j_iconst (v := 1) C dX10_next_31 rfl ?_
        refine j_iadd C dX10_next_32 ?_
        refine j_put C dX10_next_33 jp_RX10_120 (wO mO) (Nat.le_of_ble_eq_true rfl) rfl rfl (sMo 19 _ rfl) ?_
        refine j_goto (tgt := 0) C dX10_next_36 (by decide) ?_
        refine j_lv (lv' := [(0, _)]) rfl ?_
        exact ih (j + 1) _ (by omega) (by omega) (hFd_i hf) ((skS_y hB.1 hB.2).symm.trans hsk)
      · skip
        refine j_aload_n C dX10_next_13 rfl rfl ?_
        refine j_aload_n C dX10_next_14 rfl rfl ?_
        refine j_get C dX10_next_15 jf_RX10_120 (wO mO) rfl ?_
        refine j_calliv C (c_X10_byteAt _ _ _ _ _ b n t j hrb' hf.2.2 (by omega)) dX10_next_18 jm_RX10_123 ⟨_, _, _, _, wO mO, rfl, rfl⟩ ⟨by decide, by decide, by decide, by decide⟩ rfl (Nat.le_of_ble_eq_true rfl) (fun r z hz => ?_)
        obtain ⟨hr, hz⟩ := hz; have hr := hr.symm; have hz := hz.symm; subst hr; subst hz
        refine j_bipush (v := 10) C dX10_next_21 rfl ?_
        refine j_icmp_ne (tgt := 39) C dX10_next_23 (by decide) (fun c_23 => ?_) (fun c_23 => ?_)
        · skip
          have hNB : ¬ (j < n ∧ isB (b j)) := fun h2 => by rw [btS_lt h2.1] at c_10 c_23; exact h2.2.elim c_10 c_23
          have hq : skS b n h = j := hsk.symm.trans (skS_n hNB)
          have hs0 := stg_0 hf
          refine j_aload_n C dX10_next_39 rfl rfl ?_
          refine j_aload_n C dX10_next_40 rfl rfl ?_
          refine j_get C dX10_next_41 jf_RX10_120 (wO mO) rfl ?_
          refine j_put C dX10_next_44 jp_RX10_126 (wO mO) (Nat.le_of_ble_eq_true rfl) rfl rfl (sMo 21 _ rfl) ?_
          refine j_aload_n C dX10_next_47 rfl rfl ?_
          refine j_aload_n C dX10_next_48 rfl rfl ?_
          refine j_get C dX10_next_49 jf_RX10_120 (wO mO) rfl ?_
          refine j_calliv C (c_X10_byteAt _ _ _ _ _ b n t j (rbM_m hrb' (mF_1 (by decide))) (by rw [mU_1, uM_n (by decide)]; exact hf.2.2) (by omega)) dX10_next_52 jm_RX10_123 ⟨_, _, _, _, wO mO, rfl, rfl⟩ ⟨by decide, by decide, by decide, by decide⟩ rfl (Nat.le_of_ble_eq_true rfl) (fun r z hz => ?_)
          obtain ⟨hr, hz⟩ := hz; have hr := hr.symm; have hz := hz.symm; subst hr; subst hz
          refine j_istore_n (lv' := [(1, _), (0, _)]) C dX10_next_55 rfl (by decide) rfl ?_
          refine j_aload_n C dX10_next_56 rfl rfl ?_
          refine j_iconst (v := 4) C dX10_next_57 rfl ?_
          refine j_put C dX10_next_58 jp_RX10_129 (wO mO) (Nat.le_of_ble_eq_true rfl) rfl rfl (sMo 20 _ rfl) ?_
          refine j_iload_n C dX10_next_61 rfl rfl ?_
          refine j_if_ge (tgt := 81) C dX10_next_62 (by decide) (fun c_62 => ?_) (fun c_62 => ?_)
          · skip
            have hlt : j < n := by
              rcases Nat.lt_or_ge j n with h2 | h2
              · exact h2
              · rw [btS_ge (by omega)] at c_62; exact absurd c_62 (by decide)
            have hbt : btS b n j = b j := btS_lt hlt
            refine j_iload_n C dX10_next_81 rfl rfl ?_
            refine j_i2l C dX10_next_82 ?_
            refine j_ldc2 C dX10_next_83 jc_RX10_132 ?_
            refine j_ldc2 C dX10_next_86 jc_RX10_134 ?_
            refine j_callis C (c_X10_in _ _ _ _ _ _ _ ) dX10_next_89 jm_RX10_73 ⟨by decide, by decide, by decide, by decide⟩ rfl (Nat.le_of_ble_eq_true rfl) (fun r z hz => ?_)
            obtain ⟨hb, hz⟩ := hz; have hz := hz.symm; subst hz
            rcases hb with ⟨rfl, b_89⟩ | ⟨rfl, b_89⟩
            · skip
              have hL : isL (b j) := by rw [hbt] at b_89; simp only [isL, Int32.lt_iff_toInt_lt, Int32.le_iff_toInt_le, ← Int32.toInt_inj, Int32.reduceToInt, Int64.lt_iff_toInt_lt, Int64.le_iff_toInt_le, Int32.toInt_toInt64, Int64.reduceToInt] at b_89 ⊢; omega
              refine j_if_eq (tgt := 134) C dX10_next_92 (by decide) (fun c => absurd c (by decide)) (fun _ => ?_)
              refine j_aload_n C dX10_next_95 rfl rfl ?_
              refine j_iconst (v := 1) C dX10_next_96 rfl ?_
              refine j_put C dX10_next_97 jp_RX10_129 (wO mO) (Nat.le_of_ble_eq_true rfl) rfl rfl (sMo 20 _ rfl) ?_
              have L_100 : ∀ k : Nat, ∀ (i : Nat) (y : mS), i ≤ n → n < i + k → stg x y i 1 j → enR b n 97 122 i = enR b n 97 122 j → J KK (mW (kG KK) a) 0 0 y [(0, .ref (a 0)), (1, .int (btS b n j))] 100 [] := by
                intro k
                induction k with
                | zero => intro i y h1 hk hs he; omega
                | succ k ih =>
                  intro i y h1 hk hs he
                  refine j_aload_n C dX10_next_100 rfl rfl ?_
                  refine j_aload_n C dX10_next_101 rfl rfl ?_
                  refine j_get C dX10_next_102 jf_RX10_120 (wO mO) rfl ?_
                  refine j_calliv C (c_X10_byteAt _ _ _ _ _ b n t i (rbM_m hrb (nxF_m hs.1)) hs.2.1 (by omega)) dX10_next_105 jm_RX10_123 ⟨_, _, _, _, wO mO, rfl, rfl⟩ ⟨by decide, by decide, by decide, by decide⟩ rfl (Nat.le_of_ble_eq_true rfl) (fun r z hz => ?_)
                  obtain ⟨hr, hz⟩ := hz; have hr := hr.symm; have hz := hz.symm; subst hr; subst hz
                  refine j_i2l C dX10_next_108 ?_
                  refine j_ldc2 C dX10_next_109 jc_RX10_132 ?_
                  refine j_ldc2 C dX10_next_112 jc_RX10_134 ?_
                  refine j_callis C (c_X10_in _ _ _ _ _ _ _ ) dX10_next_115 jm_RX10_73 ⟨by decide, by decide, by decide, by decide⟩ rfl (Nat.le_of_ble_eq_true rfl) (fun r z hz => ?_)
                  obtain ⟨hb, hz⟩ := hz; have hz := hz.symm; subst hz
                  rcases hb with ⟨rfl, b_115⟩ | ⟨rfl, b_115⟩
                  · skip
                    have hL2 : i < n ∧ 97 ≤ b i ∧ b i ≤ 122 := bt_in (by decide) (by simp only [Int32.lt_iff_toInt_lt, Int32.le_iff_toInt_le, ← Int32.toInt_inj, Int32.reduceToInt, Int64.lt_iff_toInt_lt, Int64.le_iff_toInt_le, Int32.toInt_toInt64, Int64.reduceToInt] at b_115 ⊢; omega)
                    refine j_if_eq (tgt := 321) C dX10_next_118 (by decide) (fun c => absurd c (by decide)) (fun _ => ?_)
                    refine j_aload_n C dX10_next_121 rfl rfl ?_
                    refine j_dup C dX10_next_122 rfl ?_
                    refine j_get C dX10_next_123 jf_RX10_120 (wO mO) rfl ?_
                    refine j_iconst (v := 1) C dX10_next_126 rfl ?_
                    refine j_iadd C dX10_next_127 ?_
                    refine j_put C dX10_next_128 jp_RX10_120 (wO mO) (Nat.le_of_ble_eq_true rfl) rfl rfl (sMo 19 _ rfl) ?_
                    refine j_goto (tgt := 100) C dX10_next_131 (by decide) ?_
                    refine j_lv (lv' := [(0, _), (1, _)]) rfl ?_
                    exact ih (i + 1) _ (by omega) (by omega) (stg_i hs) ((enR_y hL2.1 hL2.2).symm.trans he)
                  · skip
                    have hL2 : ¬ (i < n ∧ 97 ≤ b i ∧ b i ≤ 122) := bt_no (fun h2 => b_115 (by simp only [Int32.lt_iff_toInt_lt, Int32.le_iff_toInt_le, ← Int32.toInt_inj, Int32.reduceToInt, Int64.lt_iff_toInt_lt, Int64.le_iff_toInt_le, Int32.toInt_toInt64, Int64.reduceToInt] at h2 ⊢; omega))
                    refine j_if_eq (tgt := 321) C dX10_next_118 (by decide) (fun _ => ?_) (fun c => absurd (by decide) c)
                    refine hret _ _ _ dX10_next_321 ?_
                    rw [hq]
                    exact fin_L hs hlt hL (he.symm.trans (enR_n hL2))
              refine j_lv (lv' := [(0, _), (1, _)]) rfl ?_
              exact L_100 (n + 1) j _ (by omega) (by omega) (stg_k hs0) rfl
            · skip
              have hL : ¬ isL (b j) := fun h2 => b_89 (by rw [hbt]; simp only [isL, Int32.lt_iff_toInt_lt, Int32.le_iff_toInt_le, ← Int32.toInt_inj, Int32.reduceToInt, Int64.lt_iff_toInt_lt, Int64.le_iff_toInt_le, Int32.toInt_toInt64, Int64.reduceToInt] at h2 ⊢; omega)
              refine j_if_eq (tgt := 134) C dX10_next_92 (by decide) (fun _ => ?_) (fun c => absurd (by decide) c)
              refine j_iload_n C dX10_next_134 rfl rfl ?_
              refine j_i2l C dX10_next_135 ?_
              refine j_ldc2 C dX10_next_136 jc_RX10_136 ?_
              refine j_ldc2 C dX10_next_139 jc_RX10_138 ?_
              refine j_callis C (c_X10_in _ _ _ _ _ _ _ ) dX10_next_142 jm_RX10_73 ⟨by decide, by decide, by decide, by decide⟩ rfl (Nat.le_of_ble_eq_true rfl) (fun r z hz => ?_)
              obtain ⟨hb, hz⟩ := hz; have hz := hz.symm; subst hz
              rcases hb with ⟨rfl, b_142⟩ | ⟨rfl, b_142⟩
              · skip
                have hD : isD (b j) := by rw [hbt] at b_142; simp only [isD, Int32.lt_iff_toInt_lt, Int32.le_iff_toInt_le, ← Int32.toInt_inj, Int32.reduceToInt, Int64.lt_iff_toInt_lt, Int64.le_iff_toInt_le, Int32.toInt_toInt64, Int64.reduceToInt] at b_142 ⊢; omega
                refine j_if_eq (tgt := 252) C dX10_next_145 (by decide) (fun c => absurd c (by decide)) (fun _ => ?_)
                refine j_aload_n C dX10_next_148 rfl rfl ?_
                refine j_iconst (v := 2) C dX10_next_149 rfl ?_
                refine j_put C dX10_next_150 jp_RX10_129 (wO mO) (Nat.le_of_ble_eq_true rfl) rfl rfl (sMo 20 _ rfl) ?_
                refine j_aload_n C dX10_next_153 rfl rfl ?_
                refine j_lconst (v := 0) C dX10_next_154 rfl ?_
                refine j_put C dX10_next_155 jp_RX10_140 (wO mO) (Nat.le_of_ble_eq_true rfl) rfl rfl (sMw _) ?_
                refine j_iconst (v := 0) C dX10_next_158 rfl ?_
                refine j_istore_n (lv' := [(2, _), (1, _), (0, _)]) C dX10_next_159 rfl (by decide) rfl ?_
                have L_160 : ∀ k : Nat, ∀ (c : Nat) (y : mS), j + c ≤ n → n < j + c + k → stg x y (j + c) 2 j → enR b n 48 57 (j + c) = enR b n 48 57 j → (∀ i, i < c → isD (b (j + i))) → (c ≤ 4 → y.2 = (nuS b j c).toInt64) → J KK (mW (kG KK) a) 0 0 y [(0, .ref (a 0)), (1, .int (btS b n j)), (2, .int (nI c))] 160 [] := by
                  intro k
                  induction k with
                  | zero => intro c y h1 hk hs he hd hw; omega
                  | succ k ih =>
                    intro c y h1 hk hs he hd hw
                    have e_c : (nI c).toInt = c := nI_toInt (by omega)
                    refine j_aload_n C dX10_next_160 rfl rfl ?_
                    refine j_aload_n C dX10_next_161 rfl rfl ?_
                    refine j_get C dX10_next_162 jf_RX10_120 (wO mO) rfl ?_
                    refine j_calliv C (c_X10_byteAt _ _ _ _ _ b n t (j + c) (rbM_m hrb (nxF_m hs.1)) hs.2.1 (by omega)) dX10_next_165 jm_RX10_123 ⟨_, _, _, _, wO mO, rfl, rfl⟩ ⟨by decide, by decide, by decide, by decide⟩ rfl (Nat.le_of_ble_eq_true rfl) (fun r z hz => ?_)
                    obtain ⟨hr, hz⟩ := hz; have hr := hr.symm; have hz := hz.symm; subst hr; subst hz
                    refine j_i2l C dX10_next_168 ?_
                    refine j_ldc2 C dX10_next_169 jc_RX10_136 ?_
                    refine j_ldc2 C dX10_next_172 jc_RX10_138 ?_
                    refine j_callis C (c_X10_in _ _ _ _ _ _ _ ) dX10_next_175 jm_RX10_73 ⟨by decide, by decide, by decide, by decide⟩ rfl (Nat.le_of_ble_eq_true rfl) (fun r z hz => ?_)
                    obtain ⟨hb, hz⟩ := hz; have hz := hz.symm; subst hz
                    rcases hb with ⟨rfl, b_175⟩ | ⟨rfl, b_175⟩
                    · skip
                      have hD2 : j + c < n ∧ 48 ≤ b (j + c) ∧ b (j + c) ≤ 57 := bt_in (by decide) (by simp only [Int32.lt_iff_toInt_lt, Int32.le_iff_toInt_le, ← Int32.toInt_inj, Int32.reduceToInt, Int64.lt_iff_toInt_lt, Int64.le_iff_toInt_le, Int32.toInt_toInt64, Int64.reduceToInt] at b_175 ⊢; omega)
                      refine j_if_eq (tgt := 235) C dX10_next_178 (by decide) (fun c => absurd c (by decide)) (fun _ => ?_)
                      refine j_aload_n C dX10_next_181 rfl rfl ?_
                      refine j_iload_n C dX10_next_182 rfl rfl ?_
                      refine j_iconst (v := 4) C dX10_next_183 rfl ?_
                      refine j_icmp_ge (tgt := 212) C dX10_next_184 (by decide) (fun c_184 => ?_) (fun c_184 => ?_)
                      · skip
                        have hc4 : ¬ c < 4 := by simp only [Int32.lt_iff_toInt_lt, Int32.le_iff_toInt_le, ← Int32.toInt_inj, Int32.reduceToInt, e_c] at c_184; omega
                        refine j_aload_n C dX10_next_212 rfl rfl ?_
                        refine j_get C dX10_next_213 jf_RX10_140 (wO mO) rfl ?_
                        refine j_put C dX10_next_216 jp_RX10_140 (wO mO) (Nat.le_of_ble_eq_true rfl) rfl rfl (sMw _) ?_
                        refine j_iinc (lv' := [(2, _), (0, _), (1, _)]) (v := nI (c + 1)) C dX10_next_219 rfl (j_inc1 c) (by decide) rfl ?_
                        refine j_aload_n C dX10_next_222 rfl rfl ?_
                        refine j_dup C dX10_next_223 rfl ?_
                        refine j_get C dX10_next_224 jf_RX10_120 (wO mO) rfl ?_
                        refine j_iconst (v := 1) C dX10_next_227 rfl ?_
                        refine j_iadd C dX10_next_228 ?_
                        refine j_put C dX10_next_229 jp_RX10_120 (wO mO) (Nat.le_of_ble_eq_true rfl) rfl rfl (sMo 19 _ rfl) ?_
                        refine j_goto (tgt := 160) C dX10_next_232 (by decide) ?_
                        refine j_lv (lv' := [(0, _), (1, _), (2, _)]) rfl ?_
                        refine ih (c + 1) _ (by omega) (by omega) (stg_i (stg_w hs)) ((enR_y hD2.1 hD2.2).symm.trans he) (fun i hi => ?_) (fun hc => ?_)
                        · by_cases e : i = c
                          · subst e; exact hD2.2
                          · exact hd i (by omega)
                        · first
                            | exact absurd hc (by omega)
                            | (show 10 * y.2 + (btS b n (j + c)).toInt64 - 48 = _
                               rw [hw (by omega), btS_lt hD2.1]
                               exact nu_l (by omega) (fun i hi => by
                                 by_cases e : i = c
                                 · subst e; exact hD2.2
                                 · exact hd i (by omega)))
                      · skip
                        have hc4 : c < 4 := by simp only [Int32.lt_iff_toInt_lt, Int32.le_iff_toInt_le, ← Int32.toInt_inj, Int32.reduceToInt, e_c] at c_184; omega
                        refine j_ldc2 C dX10_next_187 jc_RX10_144 ?_
                        refine j_aload_n C dX10_next_190 rfl rfl ?_
                        refine j_get C dX10_next_191 jf_RX10_140 (wO mO) rfl ?_
                        refine j_lmul C dX10_next_194 ?_
                        refine j_aload_n C dX10_next_195 rfl rfl ?_
                        refine j_aload_n C dX10_next_196 rfl rfl ?_
                        refine j_get C dX10_next_197 jf_RX10_120 (wO mO) rfl ?_
                        refine j_calliv C (c_X10_byteAt _ _ _ _ _ b n t (j + c) (rbM_m hrb (nxF_m hs.1)) hs.2.1 (by omega)) dX10_next_200 jm_RX10_123 ⟨_, _, _, _, wO mO, rfl, rfl⟩ ⟨by decide, by decide, by decide, by decide⟩ rfl (Nat.le_of_ble_eq_true rfl) (fun r z hz => ?_)
                        obtain ⟨hr, hz⟩ := hz; have hr := hr.symm; have hz := hz.symm; subst hr; subst hz
                        refine j_i2l C dX10_next_203 ?_
                        refine j_ladd C dX10_next_204 ?_
                        refine j_ldc2 C dX10_next_205 jc_RX10_136 ?_
                        refine j_lsub C dX10_next_208 ?_
                        refine j_goto (tgt := 216) C dX10_next_209 (by decide) ?_
                        refine j_put C dX10_next_216 jp_RX10_140 (wO mO) (Nat.le_of_ble_eq_true rfl) rfl rfl (sMw _) ?_
                        refine j_iinc (lv' := [(2, _), (0, _), (1, _)]) (v := nI (c + 1)) C dX10_next_219 rfl (j_inc1 c) (by decide) rfl ?_
                        refine j_aload_n C dX10_next_222 rfl rfl ?_
                        refine j_dup C dX10_next_223 rfl ?_
                        refine j_get C dX10_next_224 jf_RX10_120 (wO mO) rfl ?_
                        refine j_iconst (v := 1) C dX10_next_227 rfl ?_
                        refine j_iadd C dX10_next_228 ?_
                        refine j_put C dX10_next_229 jp_RX10_120 (wO mO) (Nat.le_of_ble_eq_true rfl) rfl rfl (sMo 19 _ rfl) ?_
                        refine j_goto (tgt := 160) C dX10_next_232 (by decide) ?_
                        refine j_lv (lv' := [(0, _), (1, _), (2, _)]) rfl ?_
                        refine ih (c + 1) _ (by omega) (by omega) (stg_i (stg_w hs)) ((enR_y hD2.1 hD2.2).symm.trans he) (fun i hi => ?_) (fun hc => ?_)
                        · by_cases e : i = c
                          · subst e; exact hD2.2
                          · exact hd i (by omega)
                        · first
                            | exact absurd hc (by omega)
                            | (show 10 * y.2 + (btS b n (j + c)).toInt64 - 48 = _
                               rw [hw (by omega), btS_lt hD2.1]
                               exact nu_l (by omega) (fun i hi => by
                                 by_cases e : i = c
                                 · subst e; exact hD2.2
                                 · exact hd i (by omega)))
                    · skip
                      have hD2 : ¬ (j + c < n ∧ 48 ≤ b (j + c) ∧ b (j + c) ≤ 57) := bt_no (fun h2 => b_175 (by simp only [Int32.lt_iff_toInt_lt, Int32.le_iff_toInt_le, ← Int32.toInt_inj, Int32.reduceToInt, Int64.lt_iff_toInt_lt, Int64.le_iff_toInt_le, Int32.toInt_toInt64, Int64.reduceToInt] at h2 ⊢; omega))
                      refine j_if_eq (tgt := 235) C dX10_next_178 (by decide) (fun _ => ?_) (fun c => absurd (by decide) c)
                      refine j_aload_n C dX10_next_235 rfl rfl ?_
                      refine j_iload_n C dX10_next_236 rfl rfl ?_
                      refine j_iconst (v := 4) C dX10_next_237 rfl ?_
                      refine j_icmp_le (tgt := 245) C dX10_next_238 (by decide) (fun c_238 => ?_) (fun c_238 => ?_)
                      · skip
                        have hc4 : c ≤ 4 := by simp only [Int32.lt_iff_toInt_lt, Int32.le_iff_toInt_le, ← Int32.toInt_inj, Int32.reduceToInt, e_c] at c_238; omega
                        refine j_iconst (v := 2) C dX10_next_245 rfl ?_
                        refine j_put C dX10_next_246 jp_RX10_129 (wO mO) (Nat.le_of_ble_eq_true rfl) rfl rfl (sMo 20 _ rfl) ?_
                        refine j_goto (tgt := 321) C dX10_next_249 (by decide) ?_
                        refine hret _ _ _ dX10_next_321 ?_
                        rw [hq]
                        exact fin_D (stg_k hs) hlt hL hD (he.symm.trans (enR_n hD2)) (by first | exact (if_pos hc4).symm | exact (if_neg hc4).symm) hw
                      · skip
                        have hc4 : ¬ c ≤ 4 := by simp only [Int32.lt_iff_toInt_lt, Int32.le_iff_toInt_le, ← Int32.toInt_inj, Int32.reduceToInt, e_c] at c_238; omega
                        refine j_iconst (v := 4) C dX10_next_241 rfl ?_
                        refine j_goto (tgt := 246) C dX10_next_242 (by decide) ?_
                        refine j_put C dX10_next_246 jp_RX10_129 (wO mO) (Nat.le_of_ble_eq_true rfl) rfl rfl (sMo 20 _ rfl) ?_
                        refine j_goto (tgt := 321) C dX10_next_249 (by decide) ?_
                        refine hret _ _ _ dX10_next_321 ?_
                        rw [hq]
                        exact fin_D (stg_k hs) hlt hL hD (he.symm.trans (enR_n hD2)) (by first | exact (if_pos hc4).symm | exact (if_neg hc4).symm) hw
                refine j_lv (lv' := [(0, _), (1, _), (2, _)]) rfl ?_
                exact L_160 (n + 1) 0 _ (by omega) (by omega) (stg_w (stg_k hs0)) rfl (fun i hi => absurd hi (by omega)) (fun _ => rfl)
              · skip
                have hD : ¬ isD (b j) := fun h2 => b_142 (by rw [hbt]; simp only [isD, Int32.lt_iff_toInt_lt, Int32.le_iff_toInt_le, ← Int32.toInt_inj, Int32.reduceToInt, Int64.lt_iff_toInt_lt, Int64.le_iff_toInt_le, Int32.toInt_toInt64, Int64.reduceToInt] at h2 ⊢; omega)
                refine j_if_eq (tgt := 252) C dX10_next_145 (by decide) (fun _ => ?_) (fun c => absurd (by decide) c)
                refine j_iload_n C dX10_next_252 rfl rfl ?_
                refine j_bipush (v := 40) C dX10_next_253 rfl ?_
                refine j_icmp_eq (tgt := 300) C dX10_next_255 (by decide) (fun c_255 => ?_) (fun c_255 => ?_)
                · skip
                  have hS : isS (b j) := by rw [← hbt, c_255]; decide
                  refine j_aload_n C dX10_next_300 rfl rfl ?_
                  refine j_iconst (v := 3) C dX10_next_301 rfl ?_
                  refine j_put C dX10_next_302 jp_RX10_129 (wO mO) (Nat.le_of_ble_eq_true rfl) rfl rfl (sMo 20 _ rfl) ?_
                  refine j_aload_n C dX10_next_305 rfl rfl ?_
                  refine j_iload_n C dX10_next_306 rfl rfl ?_
                  refine j_i2l C dX10_next_307 ?_
                  refine j_put C dX10_next_308 jp_RX10_140 (wO mO) (Nat.le_of_ble_eq_true rfl) rfl rfl (sMw _) ?_
                  refine j_aload_n C dX10_next_311 rfl rfl ?_
                  refine j_dup C dX10_next_312 rfl ?_
                  refine j_get C dX10_next_313 jf_RX10_120 (wO mO) rfl ?_
                  refine j_iconst (v := 1) C dX10_next_316 rfl ?_
                  refine j_iadd C dX10_next_317 ?_
                  refine j_put C dX10_next_318 jp_RX10_120 (wO mO) (Nat.le_of_ble_eq_true rfl) rfl rfl (sMo 19 _ rfl) ?_
                  refine hret _ _ _ dX10_next_321 ?_
                  rw [hq]
                  first
                    | exact fin_W hs0 hlt hL hD hS
                    | exact fin_S (stg_i (stg_w (stg_k hs0))) hlt hL hD hS (congrArg Int32.toInt64 hbt)
                · skip
                  refine j_iload_n C dX10_next_258 rfl rfl ?_
                  refine j_bipush (v := 41) C dX10_next_259 rfl ?_
                  refine j_icmp_eq (tgt := 300) C dX10_next_261 (by decide) (fun c_261 => ?_) (fun c_261 => ?_)
                  · skip
                    have hS : isS (b j) := by rw [← hbt, c_261]; decide
                    refine j_aload_n C dX10_next_300 rfl rfl ?_
                    refine j_iconst (v := 3) C dX10_next_301 rfl ?_
                    refine j_put C dX10_next_302 jp_RX10_129 (wO mO) (Nat.le_of_ble_eq_true rfl) rfl rfl (sMo 20 _ rfl) ?_
                    refine j_aload_n C dX10_next_305 rfl rfl ?_
                    refine j_iload_n C dX10_next_306 rfl rfl ?_
                    refine j_i2l C dX10_next_307 ?_
                    refine j_put C dX10_next_308 jp_RX10_140 (wO mO) (Nat.le_of_ble_eq_true rfl) rfl rfl (sMw _) ?_
                    refine j_aload_n C dX10_next_311 rfl rfl ?_
                    refine j_dup C dX10_next_312 rfl ?_
                    refine j_get C dX10_next_313 jf_RX10_120 (wO mO) rfl ?_
                    refine j_iconst (v := 1) C dX10_next_316 rfl ?_
                    refine j_iadd C dX10_next_317 ?_
                    refine j_put C dX10_next_318 jp_RX10_120 (wO mO) (Nat.le_of_ble_eq_true rfl) rfl rfl (sMo 19 _ rfl) ?_
                    refine hret _ _ _ dX10_next_321 ?_
                    rw [hq]
                    first
                      | exact fin_W hs0 hlt hL hD hS
                      | exact fin_S (stg_i (stg_w (stg_k hs0))) hlt hL hD hS (congrArg Int32.toInt64 hbt)
                  · skip
                    refine j_iload_n C dX10_next_264 rfl rfl ?_
                    refine j_bipush (v := 59) C dX10_next_265 rfl ?_
                    refine j_icmp_eq (tgt := 300) C dX10_next_267 (by decide) (fun c_267 => ?_) (fun c_267 => ?_)
                    · skip
                      have hS : isS (b j) := by rw [← hbt, c_267]; decide
                      refine j_aload_n C dX10_next_300 rfl rfl ?_
                      refine j_iconst (v := 3) C dX10_next_301 rfl ?_
                      refine j_put C dX10_next_302 jp_RX10_129 (wO mO) (Nat.le_of_ble_eq_true rfl) rfl rfl (sMo 20 _ rfl) ?_
                      refine j_aload_n C dX10_next_305 rfl rfl ?_
                      refine j_iload_n C dX10_next_306 rfl rfl ?_
                      refine j_i2l C dX10_next_307 ?_
                      refine j_put C dX10_next_308 jp_RX10_140 (wO mO) (Nat.le_of_ble_eq_true rfl) rfl rfl (sMw _) ?_
                      refine j_aload_n C dX10_next_311 rfl rfl ?_
                      refine j_dup C dX10_next_312 rfl ?_
                      refine j_get C dX10_next_313 jf_RX10_120 (wO mO) rfl ?_
                      refine j_iconst (v := 1) C dX10_next_316 rfl ?_
                      refine j_iadd C dX10_next_317 ?_
                      refine j_put C dX10_next_318 jp_RX10_120 (wO mO) (Nat.le_of_ble_eq_true rfl) rfl rfl (sMo 19 _ rfl) ?_
                      refine hret _ _ _ dX10_next_321 ?_
                      rw [hq]
                      first
                        | exact fin_W hs0 hlt hL hD hS
                        | exact fin_S (stg_i (stg_w (stg_k hs0))) hlt hL hD hS (congrArg Int32.toInt64 hbt)
                    · skip
                      refine j_iload_n C dX10_next_270 rfl rfl ?_
                      refine j_bipush (v := 43) C dX10_next_271 rfl ?_
                      refine j_icmp_eq (tgt := 300) C dX10_next_273 (by decide) (fun c_273 => ?_) (fun c_273 => ?_)
                      · skip
                        have hS : isS (b j) := by rw [← hbt, c_273]; decide
                        refine j_aload_n C dX10_next_300 rfl rfl ?_
                        refine j_iconst (v := 3) C dX10_next_301 rfl ?_
                        refine j_put C dX10_next_302 jp_RX10_129 (wO mO) (Nat.le_of_ble_eq_true rfl) rfl rfl (sMo 20 _ rfl) ?_
                        refine j_aload_n C dX10_next_305 rfl rfl ?_
                        refine j_iload_n C dX10_next_306 rfl rfl ?_
                        refine j_i2l C dX10_next_307 ?_
                        refine j_put C dX10_next_308 jp_RX10_140 (wO mO) (Nat.le_of_ble_eq_true rfl) rfl rfl (sMw _) ?_
                        refine j_aload_n C dX10_next_311 rfl rfl ?_
                        refine j_dup C dX10_next_312 rfl ?_
                        refine j_get C dX10_next_313 jf_RX10_120 (wO mO) rfl ?_
                        refine j_iconst (v := 1) C dX10_next_316 rfl ?_
                        refine j_iadd C dX10_next_317 ?_
                        refine j_put C dX10_next_318 jp_RX10_120 (wO mO) (Nat.le_of_ble_eq_true rfl) rfl rfl (sMo 19 _ rfl) ?_
                        refine hret _ _ _ dX10_next_321 ?_
                        rw [hq]
                        first
                          | exact fin_W hs0 hlt hL hD hS
                          | exact fin_S (stg_i (stg_w (stg_k hs0))) hlt hL hD hS (congrArg Int32.toInt64 hbt)
                      · skip
                        refine j_iload_n C dX10_next_276 rfl rfl ?_
                        refine j_bipush (v := 45) C dX10_next_277 rfl ?_
                        refine j_icmp_eq (tgt := 300) C dX10_next_279 (by decide) (fun c_279 => ?_) (fun c_279 => ?_)
                        · skip
                          have hS : isS (b j) := by rw [← hbt, c_279]; decide
                          refine j_aload_n C dX10_next_300 rfl rfl ?_
                          refine j_iconst (v := 3) C dX10_next_301 rfl ?_
                          refine j_put C dX10_next_302 jp_RX10_129 (wO mO) (Nat.le_of_ble_eq_true rfl) rfl rfl (sMo 20 _ rfl) ?_
                          refine j_aload_n C dX10_next_305 rfl rfl ?_
                          refine j_iload_n C dX10_next_306 rfl rfl ?_
                          refine j_i2l C dX10_next_307 ?_
                          refine j_put C dX10_next_308 jp_RX10_140 (wO mO) (Nat.le_of_ble_eq_true rfl) rfl rfl (sMw _) ?_
                          refine j_aload_n C dX10_next_311 rfl rfl ?_
                          refine j_dup C dX10_next_312 rfl ?_
                          refine j_get C dX10_next_313 jf_RX10_120 (wO mO) rfl ?_
                          refine j_iconst (v := 1) C dX10_next_316 rfl ?_
                          refine j_iadd C dX10_next_317 ?_
                          refine j_put C dX10_next_318 jp_RX10_120 (wO mO) (Nat.le_of_ble_eq_true rfl) rfl rfl (sMo 19 _ rfl) ?_
                          refine hret _ _ _ dX10_next_321 ?_
                          rw [hq]
                          first
                            | exact fin_W hs0 hlt hL hD hS
                            | exact fin_S (stg_i (stg_w (stg_k hs0))) hlt hL hD hS (congrArg Int32.toInt64 hbt)
                        · skip
                          refine j_iload_n C dX10_next_282 rfl rfl ?_
                          refine j_bipush (v := 42) C dX10_next_283 rfl ?_
                          refine j_icmp_eq (tgt := 300) C dX10_next_285 (by decide) (fun c_285 => ?_) (fun c_285 => ?_)
                          · skip
                            have hS : isS (b j) := by rw [← hbt, c_285]; decide
                            refine j_aload_n C dX10_next_300 rfl rfl ?_
                            refine j_iconst (v := 3) C dX10_next_301 rfl ?_
                            refine j_put C dX10_next_302 jp_RX10_129 (wO mO) (Nat.le_of_ble_eq_true rfl) rfl rfl (sMo 20 _ rfl) ?_
                            refine j_aload_n C dX10_next_305 rfl rfl ?_
                            refine j_iload_n C dX10_next_306 rfl rfl ?_
                            refine j_i2l C dX10_next_307 ?_
                            refine j_put C dX10_next_308 jp_RX10_140 (wO mO) (Nat.le_of_ble_eq_true rfl) rfl rfl (sMw _) ?_
                            refine j_aload_n C dX10_next_311 rfl rfl ?_
                            refine j_dup C dX10_next_312 rfl ?_
                            refine j_get C dX10_next_313 jf_RX10_120 (wO mO) rfl ?_
                            refine j_iconst (v := 1) C dX10_next_316 rfl ?_
                            refine j_iadd C dX10_next_317 ?_
                            refine j_put C dX10_next_318 jp_RX10_120 (wO mO) (Nat.le_of_ble_eq_true rfl) rfl rfl (sMo 19 _ rfl) ?_
                            refine hret _ _ _ dX10_next_321 ?_
                            rw [hq]
                            first
                              | exact fin_W hs0 hlt hL hD hS
                              | exact fin_S (stg_i (stg_w (stg_k hs0))) hlt hL hD hS (congrArg Int32.toInt64 hbt)
                          · skip
                            refine j_iload_n C dX10_next_288 rfl rfl ?_
                            refine j_bipush (v := 60) C dX10_next_289 rfl ?_
                            refine j_icmp_eq (tgt := 300) C dX10_next_291 (by decide) (fun c_291 => ?_) (fun c_291 => ?_)
                            · skip
                              have hS : isS (b j) := by rw [← hbt, c_291]; decide
                              refine j_aload_n C dX10_next_300 rfl rfl ?_
                              refine j_iconst (v := 3) C dX10_next_301 rfl ?_
                              refine j_put C dX10_next_302 jp_RX10_129 (wO mO) (Nat.le_of_ble_eq_true rfl) rfl rfl (sMo 20 _ rfl) ?_
                              refine j_aload_n C dX10_next_305 rfl rfl ?_
                              refine j_iload_n C dX10_next_306 rfl rfl ?_
                              refine j_i2l C dX10_next_307 ?_
                              refine j_put C dX10_next_308 jp_RX10_140 (wO mO) (Nat.le_of_ble_eq_true rfl) rfl rfl (sMw _) ?_
                              refine j_aload_n C dX10_next_311 rfl rfl ?_
                              refine j_dup C dX10_next_312 rfl ?_
                              refine j_get C dX10_next_313 jf_RX10_120 (wO mO) rfl ?_
                              refine j_iconst (v := 1) C dX10_next_316 rfl ?_
                              refine j_iadd C dX10_next_317 ?_
                              refine j_put C dX10_next_318 jp_RX10_120 (wO mO) (Nat.le_of_ble_eq_true rfl) rfl rfl (sMo 19 _ rfl) ?_
                              refine hret _ _ _ dX10_next_321 ?_
                              rw [hq]
                              first
                                | exact fin_W hs0 hlt hL hD hS
                                | exact fin_S (stg_i (stg_w (stg_k hs0))) hlt hL hD hS (congrArg Int32.toInt64 hbt)
                            · skip
                              refine j_iload_n C dX10_next_294 rfl rfl ?_
                              refine j_bipush (v := 61) C dX10_next_295 rfl ?_
                              refine j_icmp_ne (tgt := 321) C dX10_next_297 (by decide) (fun c_297 => ?_) (fun c_297 => ?_)
                              · skip
                                have hS : ¬ isS (b j) := fun h2 => by
                                  rw [← hbt] at h2
                                  rcases h2 with h2 | h2 | h2 | h2 | h2 | h2 | h2 | h2
                                  · exact c_255 h2
                                  · exact c_261 h2
                                  · exact c_267 h2
                                  · exact c_273 h2
                                  · exact c_279 h2
                                  · exact c_285 h2
                                  · exact c_291 h2
                                  · exact c_297 h2
                                refine hret _ _ _ dX10_next_321 ?_
                                rw [hq]
                                first
                                  | exact fin_W hs0 hlt hL hD hS
                                  | exact fin_S (stg_i (stg_w (stg_k hs0))) hlt hL hD hS (congrArg Int32.toInt64 hbt)
                              · skip
                                have hS : isS (b j) := by rw [← hbt, c_297]; decide
                                refine j_aload_n C dX10_next_300 rfl rfl ?_
                                refine j_iconst (v := 3) C dX10_next_301 rfl ?_
                                refine j_put C dX10_next_302 jp_RX10_129 (wO mO) (Nat.le_of_ble_eq_true rfl) rfl rfl (sMo 20 _ rfl) ?_
                                refine j_aload_n C dX10_next_305 rfl rfl ?_
                                refine j_iload_n C dX10_next_306 rfl rfl ?_
                                refine j_i2l C dX10_next_307 ?_
                                refine j_put C dX10_next_308 jp_RX10_140 (wO mO) (Nat.le_of_ble_eq_true rfl) rfl rfl (sMw _) ?_
                                refine j_aload_n C dX10_next_311 rfl rfl ?_
                                refine j_dup C dX10_next_312 rfl ?_
                                refine j_get C dX10_next_313 jf_RX10_120 (wO mO) rfl ?_
                                refine j_iconst (v := 1) C dX10_next_316 rfl ?_
                                refine j_iadd C dX10_next_317 ?_
                                refine j_put C dX10_next_318 jp_RX10_120 (wO mO) (Nat.le_of_ble_eq_true rfl) rfl rfl (sMo 19 _ rfl) ?_
                                refine hret _ _ _ dX10_next_321 ?_
                                rw [hq]
                                first
                                  | exact fin_W hs0 hlt hL hD hS
                                  | exact fin_S (stg_i (stg_w (stg_k hs0))) hlt hL hD hS (congrArg Int32.toInt64 hbt)
          · skip
            have hend : ¬ j < n := fun h2 => by rw [btS_lt h2] at c_62; exact c_62 (hrb.2.2.2.2 j h2).2
            refine j_aload_n C dX10_next_65 rfl rfl ?_
            refine j_iconst (v := 0) C dX10_next_66 rfl ?_
            refine j_put C dX10_next_67 jp_RX10_129 (wO mO) (Nat.le_of_ble_eq_true rfl) rfl rfl (sMo 20 _ rfl) ?_
            refine j_aload_n C dX10_next_70 rfl rfl ?_
            refine j_aload_n C dX10_next_71 rfl rfl ?_
            refine j_get C dX10_next_72 jf_RX10_114 (wO mO) rfl ?_
            refine j_put C dX10_next_75 jp_RX10_126 (wO mO) (Nat.le_of_ble_eq_true rfl) rfl rfl (sMo 21 _ rfl) ?_
            refine j_goto (tgt := 321) C dX10_next_78 (by decide) ?_
            refine hret _ _ _ dX10_next_321 ?_
            rw [hq]
            exact fin_E hs0 (by omega) hrb.2.2.1
        · skip
          have hB := bt_B (Or.inr c_23)
          refine j_aload_n C dX10_next_26 rfl rfl ?_
          refine j_dup C dX10_next_27 rfl ?_
          refine j_get C dX10_next_28 jf_RX10_120 (wO mO) rfl ?_
          refine j_iconst (v := 1) C dX10_next_31 rfl ?_
          refine j_iadd C dX10_next_32 ?_
          refine j_put C dX10_next_33 jp_RX10_120 (wO mO) (Nat.le_of_ble_eq_true rfl) rfl rfl (sMo 19 _ rfl) ?_
          refine j_goto (tgt := 0) C dX10_next_36 (by decide) ?_
          refine j_lv (lv' := [(0, _)]) rfl ?_
          exact ih (j + 1) _ (by omega) (by omega) (hFd_i hf) ((skS_y hB.1 hB.2).symm.trans hsk)
  refine j_lv (lv' := [(0, _)]) rfl ?_
  exact L_0 (n + 1) h x (by omega) (by omega) ⟨fun _ _ => rfl, fun _ _ => rfl, hh⟩ rfl
set_option maxHeartbeats 4000000 in
set_option maxRecDepth 100000 in
theorem c_X10_fail (l : Launch) (g : jG) (a : Nat → Nat) (x : mS)   : Cv l g yX10_fail cX10_fail 1 0 0 0 0 (mW g a) [.ref (a 0)] x (fun z => z = flM x) := by
  refine mk_v (by decide +kernel) rfl (fun KK hKl hKg C hin hret => ?_)
  subst hKl; subst hKg
  refine j_lv (lv' := [(0, _)]) rfl ?_
  refine j_aload_n C dX10_fail_0 rfl rfl ?_
  refine j_get C dX10_fail_1 jf_RX10_146 (wO mO) rfl ?_
  refine j_if_ne (tgt := 20) C dX10_fail_4 (by decide) (fun c_4 => ?_) (fun c_4 => ?_)
  · skip
    refine hret _ _ _ dX10_fail_20 ?_
    first
      | (rw [flM, if_neg c_4]; done)
      | (rw [flM, if_pos c_4]; exact congrArg (mU _ 0 25) (by rw [mU_1, uM_n (by decide)]))
  · skip
    refine j_aload_n C dX10_fail_7 rfl rfl ?_
    refine j_iconst (v := 1) C dX10_fail_8 rfl ?_
    refine j_put C dX10_fail_9 jp_RX10_146 (wO mO) (Nat.le_of_ble_eq_true rfl) rfl rfl (sMo 24 _ rfl) ?_
    refine j_aload_n C dX10_fail_12 rfl rfl ?_
    refine j_aload_n C dX10_fail_13 rfl rfl ?_
    refine j_get C dX10_fail_14 jf_RX10_126 (wO mO) rfl ?_
    refine j_put C dX10_fail_17 jp_RX10_150 (wO mO) (Nat.le_of_ble_eq_true rfl) rfl rfl (sMo 25 _ rfl) ?_
    refine hret _ _ _ dX10_fail_20 ?_
    first
      | (rw [flM, if_neg c_4]; done)
      | (rw [flM, if_pos c_4]; exact congrArg (mU _ 0 25) (by rw [mU_1, uM_n (by decide)]))
set_option maxHeartbeats 4000000 in
set_option maxRecDepth 100000 in
theorem c_X10_isLetter (l : Launch) (g : jG) (a : Nat → Nat) (x : mS) (i : Int32) (c : Int32) (b : Nat → Int32) (n t : Nat) (q E j : Nat) (hrb : rbM x b n t) (hq : x.1 0 21 = nI q) (hE : x.1 0 19 = nI E) (hEn : E ≤ n) (hqn : q ≤ n) (hi : i = nI j) (hj : j < 8) : Ci l g yX10_isLetter cX10_isLetter 3 .boolean 1 21 0 0 (mW g a) [.ref (a 0), .int i, .int c] x (fun r z => ((r = 1 ∧ liP b q E j c) ∨ (r = 0 ∧ ¬ liP b q E j c)) ∧ z = x) := by
  refine mk_i (by decide +kernel) rfl (fun KK hKl hKg C hin hret => ?_)
  subst hKl; subst hKg
  refine j_lv (lv' := [(0, _), (1, _), (2, _)]) rfl ?_
  subst hi
  have hn160 := hrb.2.2.2.1
  have e_a : x.1 0 21 + nI j = nI (q + j) := by rw [hq, nI_add]
  have e_aj : (x.1 0 21 + nI j).toInt = (q + j : Nat) := by rw [e_a]; exact nI_toInt (by omega)
  have e_E : (x.1 0 19).toInt = E := by rw [hE]; exact nI_toInt (by omega)
  refine j_aload_n C dX10_isLetter_0 rfl rfl ?_
  refine j_get C dX10_isLetter_1 jf_RX10_126 (wO mO) rfl ?_
  refine j_iload_n C dX10_isLetter_4 rfl rfl ?_
  refine j_iadd C dX10_isLetter_5 ?_
  refine j_aload_n C dX10_isLetter_6 rfl rfl ?_
  refine j_get C dX10_isLetter_7 jf_RX10_120 (wO mO) rfl ?_
  refine j_icmp_ge (tgt := 35) C dX10_isLetter_10 (by decide) (fun c_10 => ?_) (fun c_10 => ?_)
  · skip
    have hlt : ¬ q + j < E := by simp only [Int32.lt_iff_toInt_lt, Int32.le_iff_toInt_le, ← Int32.toInt_inj, Int32.reduceToInt, e_aj, e_E] at c_10; omega
    refine j_iload_n C dX10_isLetter_35 rfl rfl ?_
    refine j_if_ne (tgt := 43) C dX10_isLetter_36 (by decide) (fun c_36 => ?_) (fun c_36 => ?_)
    · skip
      refine j_iconst (v := 0) C dX10_isLetter_43 rfl ?_
      refine hret _ _ _ _ dX10_isLetter_44 rfl ?_
      first
        | exact ⟨Or.inl ⟨rfl, Or.inl ⟨hlt, hb.symm.trans c_24⟩⟩, rfl⟩
        | exact ⟨Or.inr ⟨rfl, fun h => h.elim (fun k => c_24 (hb.trans k.2)) (fun k => k.1 hlt)⟩, rfl⟩
        | exact ⟨Or.inl ⟨rfl, Or.inr ⟨hlt, c_36⟩⟩, rfl⟩
        | exact ⟨Or.inr ⟨rfl, fun h => h.elim (fun k => hlt k.1) (fun k => c_36 k.2)⟩, rfl⟩
    · skip
      refine j_iconst (v := 1) C dX10_isLetter_39 rfl ?_
      refine j_goto (tgt := 44) C dX10_isLetter_40 (by decide) ?_
      refine hret _ _ _ _ dX10_isLetter_44 rfl ?_
      first
        | exact ⟨Or.inl ⟨rfl, Or.inl ⟨hlt, hb.symm.trans c_24⟩⟩, rfl⟩
        | exact ⟨Or.inr ⟨rfl, fun h => h.elim (fun k => c_24 (hb.trans k.2)) (fun k => k.1 hlt)⟩, rfl⟩
        | exact ⟨Or.inl ⟨rfl, Or.inr ⟨hlt, c_36⟩⟩, rfl⟩
        | exact ⟨Or.inr ⟨rfl, fun h => h.elim (fun k => hlt k.1) (fun k => c_36 k.2)⟩, rfl⟩
  · skip
    have hlt : q + j < E := by simp only [Int32.lt_iff_toInt_lt, Int32.le_iff_toInt_le, ← Int32.toInt_inj, Int32.reduceToInt, e_aj, e_E] at c_10; omega
    have hb : btS b n (q + j) = b (q + j) := btS_lt (by omega)
    refine j_aload_n C dX10_isLetter_13 rfl rfl ?_
    refine j_aload_n C dX10_isLetter_14 rfl rfl ?_
    refine j_get C dX10_isLetter_15 jf_RX10_126 (wO mO) rfl ?_
    refine j_iload_n C dX10_isLetter_18 rfl rfl ?_
    refine j_iadd C dX10_isLetter_19 ?_
    refine j_calliv C (c_X10_byteAt _ _ _ _ _ b n t (q + j) hrb e_a (by omega)) dX10_isLetter_20 jm_RX10_123 ⟨_, _, _, _, wO mO, rfl, rfl⟩ ⟨by decide, by decide, by decide, by decide⟩ rfl (Nat.le_of_ble_eq_true rfl) (fun r z hz => ?_)
    obtain ⟨hr, hz⟩ := hz; have hr := hr.symm; have hz := hz.symm; subst hr; subst hz
    refine j_iload_n C dX10_isLetter_23 rfl rfl ?_
    refine j_icmp_ne (tgt := 31) C dX10_isLetter_24 (by decide) (fun c_24 => ?_) (fun c_24 => ?_)
    · skip
      refine j_iconst (v := 0) C dX10_isLetter_31 rfl ?_
      refine j_goto (tgt := 44) C dX10_isLetter_32 (by decide) ?_
      refine hret _ _ _ _ dX10_isLetter_44 rfl ?_
      first
        | exact ⟨Or.inl ⟨rfl, Or.inl ⟨hlt, hb.symm.trans c_24⟩⟩, rfl⟩
        | exact ⟨Or.inr ⟨rfl, fun h => h.elim (fun k => c_24 (hb.trans k.2)) (fun k => k.1 hlt)⟩, rfl⟩
        | exact ⟨Or.inl ⟨rfl, Or.inr ⟨hlt, c_36⟩⟩, rfl⟩
        | exact ⟨Or.inr ⟨rfl, fun h => h.elim (fun k => hlt k.1) (fun k => c_36 k.2)⟩, rfl⟩
    · skip
      refine j_iconst (v := 1) C dX10_isLetter_27 rfl ?_
      refine j_goto (tgt := 44) C dX10_isLetter_28 (by decide) ?_
      refine hret _ _ _ _ dX10_isLetter_44 rfl ?_
      first
        | exact ⟨Or.inl ⟨rfl, Or.inl ⟨hlt, hb.symm.trans c_24⟩⟩, rfl⟩
        | exact ⟨Or.inr ⟨rfl, fun h => h.elim (fun k => c_24 (hb.trans k.2)) (fun k => k.1 hlt)⟩, rfl⟩
        | exact ⟨Or.inl ⟨rfl, Or.inr ⟨hlt, c_36⟩⟩, rfl⟩
        | exact ⟨Or.inr ⟨rfl, fun h => h.elim (fun k => hlt k.1) (fun k => c_36 k.2)⟩, rfl⟩
set_option maxHeartbeats 4000000 in
set_option maxRecDepth 100000 in
theorem c_X10_isWord (l : Launch) (g : jG) (a : Nat → Nat) (x : mS) (v0 : Int32) (v1 : Int32) (v2 : Int32) (v3 : Int32) (v4 : Int32) (v5 : Int32) (v6 : Int32) (v7 : Int32) (w : Nat) (hw : 1 ≤ w ∧ w ≤ 12) (e0 : v0 = (sByt.getD w []).getD 0 0) (e1 : v1 = (sByt.getD w []).getD 1 0) (e2 : v2 = (sByt.getD w []).getD 2 0) (e3 : v3 = (sByt.getD w []).getD 3 0) (e4 : v4 = (sByt.getD w []).getD 4 0) (e5 : v5 = (sByt.getD w []).getD 5 0) (e6 : v6 = (sByt.getD w []).getD 6 0) (e7 : v7 = (sByt.getD w []).getD 7 0) (b : Nat → Int32) (n t : Nat) (p : Nat) (hS : ¬ x.1 0 24 = 0 ∨ (rbM x b n t ∧ stM x b n (psS b n p))) : Ci l g yX10_isWord cX10_isWord 9 .boolean 2 43 0 0 (mW g a) [.ref (a 0), .int v0, .int v1, .int v2, .int v3, .int v4, .int v5, .int v6, .int v7] x (fun r z => ((r = 1 ∧ (x.1 0 24 = 0 ∧ tcS b n p = nI w)) ∨ (r = 0 ∧ ¬ (x.1 0 24 = 0 ∧ tcS b n p = nI w))) ∧ z = x) := by
  refine mk_i (by decide +kernel) rfl (fun KK hKl hKg C hin hret => ?_)
  subst hKl; subst hKg
  refine j_lv (lv' := [(0, _), (1, _), (2, _), (3, _), (4, _), (5, _), (6, _), (7, _), (8, _)]) rfl ?_
  refine j_aload_n C dX10_isWord_0 rfl rfl ?_
  refine j_get C dX10_isWord_1 jf_RX10_146 (wO mO) rfl ?_
  refine j_if_ne (tgt := 112) C dX10_isWord_4 (by decide) (fun c_4 => ?_) (fun c_4 => ?_)
  · skip
    have hno : ¬ (x.1 0 24 = 0 ∧ tcS b n p = nI w) := fun h => c_4 h.1
    refine j_iconst (v := 0) C dX10_isWord_112 rfl ?_
    refine hret _ _ _ _ dX10_isWord_113 rfl ?_
    exact ⟨Or.inr ⟨rfl, hno⟩, rfl⟩
  · skip
    obtain ⟨hrb, hst⟩ := hS.resolve_left (fun h => h c_4)
    have hn160 := hrb.2.2.2.1
    have hqn := hst.2.2.1
    have hhr := hr_le (b := b) hqn
    refine j_aload_n C dX10_isWord_7 rfl rfl ?_
    refine j_get C dX10_isWord_8 jf_RX10_129 (wO mO) rfl ?_
    refine j_iconst (v := 1) C dX10_isWord_11 rfl ?_
    refine j_icmp_ne (tgt := 112) C dX10_isWord_12 (by decide) (fun c_12 => ?_) (fun c_12 => ?_)
    · skip
      have hno : ¬ (x.1 0 24 = 0 ∧ tcS b n p = nI w) := fun h => c_12 (hst.2.2.2.1.trans ((kd_wd hw).mpr h.2).1)
      refine j_iconst (v := 0) C dX10_isWord_112 rfl ?_
      refine hret _ _ _ _ dX10_isWord_113 rfl ?_
      exact ⟨Or.inr ⟨rfl, hno⟩, rfl⟩
    · skip
      have hk : kdS b n (psS b n p) = 1 := hst.2.2.2.1.symm.trans c_12
      have e_h : (x.1 0 19).toInt = hrS b n (psS b n p) := by rw [hst.2.2.2.2.1]; exact nI_toInt (by omega)
      have e_q : (x.1 0 21 + 8).toInt = (psS b n p : Int) + 8 := by rw [hst.2.1, i32_add] <;> rw [nI_toInt (by omega)] <;> simp <;> omega
      refine j_aload_n C dX10_isWord_15 rfl rfl ?_
      refine j_get C dX10_isWord_16 jf_RX10_120 (wO mO) rfl ?_
      refine j_aload_n C dX10_isWord_19 rfl rfl ?_
      refine j_get C dX10_isWord_20 jf_RX10_126 (wO mO) rfl ?_
      refine j_bipush (v := 8) C dX10_isWord_23 rfl ?_
      refine j_iadd C dX10_isWord_25 ?_
      refine j_icmp_gt (tgt := 112) C dX10_isWord_26 (by decide) (fun c_26 => ?_) (fun c_26 => ?_)
      · skip
        have hno : ¬ (x.1 0 24 = 0 ∧ tcS b n p = nI w) := fun h => by have := ((kd_wd hw).mpr h.2).2.1; simp only [Int32.lt_iff_toInt_lt, Int32.le_iff_toInt_le, ← Int32.toInt_inj, Int32.reduceToInt, e_h, e_q] at c_26; omega
        refine j_iconst (v := 0) C dX10_isWord_112 rfl ?_
        refine hret _ _ _ _ dX10_isWord_113 rfl ?_
        exact ⟨Or.inr ⟨rfl, hno⟩, rfl⟩
      · skip
        have h8 : hrS b n (psS b n p) ≤ psS b n p + 8 := by simp only [Int32.lt_iff_toInt_lt, Int32.le_iff_toInt_le, ← Int32.toInt_inj, Int32.reduceToInt, e_h, e_q] at c_26; omega
        refine j_aload_n C dX10_isWord_29 rfl rfl ?_
        refine j_iconst (v := 0) C dX10_isWord_30 rfl ?_
        refine j_iload_n C dX10_isWord_31 rfl rfl ?_
        refine j_calliv C (c_X10_isLetter _ _ _ _ _ _ b n t (psS b n p) (hrS b n (psS b n p)) 0 hrb hst.2.1 hst.2.2.2.2.1 hhr.2 hqn rfl (by decide)) dX10_isWord_32 jm_RX10_153 ⟨_, _, _, _, wO mO, rfl, rfl⟩ ⟨by decide, by decide, by decide, by decide⟩ rfl (Nat.le_of_ble_eq_true rfl) (fun r z hz => ?_)
        obtain ⟨hb, hz⟩ := hz; have hz := hz.symm; subst hz
        rcases hb with ⟨rfl, b_32⟩ | ⟨rfl, b_32⟩
        · skip
          refine j_if_eq (tgt := 112) C dX10_isWord_35 (by decide) (fun c => absurd c (by decide)) (fun _ => ?_)
          refine j_aload_n C dX10_isWord_38 rfl rfl ?_
          refine j_iconst (v := 1) C dX10_isWord_39 rfl ?_
          refine j_iload_n C dX10_isWord_40 rfl rfl ?_
          refine j_calliv C (c_X10_isLetter _ _ _ _ _ _ b n t (psS b n p) (hrS b n (psS b n p)) 1 hrb hst.2.1 hst.2.2.2.2.1 hhr.2 hqn rfl (by decide)) dX10_isWord_41 jm_RX10_153 ⟨_, _, _, _, wO mO, rfl, rfl⟩ ⟨by decide, by decide, by decide, by decide⟩ rfl (Nat.le_of_ble_eq_true rfl) (fun r z hz => ?_)
          obtain ⟨hb, hz⟩ := hz; have hz := hz.symm; subst hz
          rcases hb with ⟨rfl, b_41⟩ | ⟨rfl, b_41⟩
          · skip
            refine j_if_eq (tgt := 112) C dX10_isWord_44 (by decide) (fun c => absurd c (by decide)) (fun _ => ?_)
            refine j_aload_n C dX10_isWord_47 rfl rfl ?_
            refine j_iconst (v := 2) C dX10_isWord_48 rfl ?_
            refine j_iload_n C dX10_isWord_49 rfl rfl ?_
            refine j_calliv C (c_X10_isLetter _ _ _ _ _ _ b n t (psS b n p) (hrS b n (psS b n p)) 2 hrb hst.2.1 hst.2.2.2.2.1 hhr.2 hqn rfl (by decide)) dX10_isWord_50 jm_RX10_153 ⟨_, _, _, _, wO mO, rfl, rfl⟩ ⟨by decide, by decide, by decide, by decide⟩ rfl (Nat.le_of_ble_eq_true rfl) (fun r z hz => ?_)
            obtain ⟨hb, hz⟩ := hz; have hz := hz.symm; subst hz
            rcases hb with ⟨rfl, b_50⟩ | ⟨rfl, b_50⟩
            · skip
              refine j_if_eq (tgt := 112) C dX10_isWord_53 (by decide) (fun c => absurd c (by decide)) (fun _ => ?_)
              refine j_aload_n C dX10_isWord_56 rfl rfl ?_
              refine j_iconst (v := 3) C dX10_isWord_57 rfl ?_
              refine j_iload C dX10_isWord_58 rfl ?_
              refine j_calliv C (c_X10_isLetter _ _ _ _ _ _ b n t (psS b n p) (hrS b n (psS b n p)) 3 hrb hst.2.1 hst.2.2.2.2.1 hhr.2 hqn rfl (by decide)) dX10_isWord_60 jm_RX10_153 ⟨_, _, _, _, wO mO, rfl, rfl⟩ ⟨by decide, by decide, by decide, by decide⟩ rfl (Nat.le_of_ble_eq_true rfl) (fun r z hz => ?_)
              obtain ⟨hb, hz⟩ := hz; have hz := hz.symm; subst hz
              rcases hb with ⟨rfl, b_60⟩ | ⟨rfl, b_60⟩
              · skip
                refine j_if_eq (tgt := 112) C dX10_isWord_63 (by decide) (fun c => absurd c (by decide)) (fun _ => ?_)
                refine j_aload_n C dX10_isWord_66 rfl rfl ?_
                refine j_iconst (v := 4) C dX10_isWord_67 rfl ?_
                refine j_iload C dX10_isWord_68 rfl ?_
                refine j_calliv C (c_X10_isLetter _ _ _ _ _ _ b n t (psS b n p) (hrS b n (psS b n p)) 4 hrb hst.2.1 hst.2.2.2.2.1 hhr.2 hqn rfl (by decide)) dX10_isWord_70 jm_RX10_153 ⟨_, _, _, _, wO mO, rfl, rfl⟩ ⟨by decide, by decide, by decide, by decide⟩ rfl (Nat.le_of_ble_eq_true rfl) (fun r z hz => ?_)
                obtain ⟨hb, hz⟩ := hz; have hz := hz.symm; subst hz
                rcases hb with ⟨rfl, b_70⟩ | ⟨rfl, b_70⟩
                · skip
                  refine j_if_eq (tgt := 112) C dX10_isWord_73 (by decide) (fun c => absurd c (by decide)) (fun _ => ?_)
                  refine j_aload_n C dX10_isWord_76 rfl rfl ?_
                  refine j_iconst (v := 5) C dX10_isWord_77 rfl ?_
                  refine j_iload C dX10_isWord_78 rfl ?_
                  refine j_calliv C (c_X10_isLetter _ _ _ _ _ _ b n t (psS b n p) (hrS b n (psS b n p)) 5 hrb hst.2.1 hst.2.2.2.2.1 hhr.2 hqn rfl (by decide)) dX10_isWord_80 jm_RX10_153 ⟨_, _, _, _, wO mO, rfl, rfl⟩ ⟨by decide, by decide, by decide, by decide⟩ rfl (Nat.le_of_ble_eq_true rfl) (fun r z hz => ?_)
                  obtain ⟨hb, hz⟩ := hz; have hz := hz.symm; subst hz
                  rcases hb with ⟨rfl, b_80⟩ | ⟨rfl, b_80⟩
                  · skip
                    refine j_if_eq (tgt := 112) C dX10_isWord_83 (by decide) (fun c => absurd c (by decide)) (fun _ => ?_)
                    refine j_aload_n C dX10_isWord_86 rfl rfl ?_
                    refine j_bipush (v := 6) C dX10_isWord_87 rfl ?_
                    refine j_iload C dX10_isWord_89 rfl ?_
                    refine j_calliv C (c_X10_isLetter _ _ _ _ _ _ b n t (psS b n p) (hrS b n (psS b n p)) 6 hrb hst.2.1 hst.2.2.2.2.1 hhr.2 hqn rfl (by decide)) dX10_isWord_91 jm_RX10_153 ⟨_, _, _, _, wO mO, rfl, rfl⟩ ⟨by decide, by decide, by decide, by decide⟩ rfl (Nat.le_of_ble_eq_true rfl) (fun r z hz => ?_)
                    obtain ⟨hb, hz⟩ := hz; have hz := hz.symm; subst hz
                    rcases hb with ⟨rfl, b_91⟩ | ⟨rfl, b_91⟩
                    · skip
                      refine j_if_eq (tgt := 112) C dX10_isWord_94 (by decide) (fun c => absurd c (by decide)) (fun _ => ?_)
                      refine j_aload_n C dX10_isWord_97 rfl rfl ?_
                      refine j_bipush (v := 7) C dX10_isWord_98 rfl ?_
                      refine j_iload C dX10_isWord_100 rfl ?_
                      refine j_calliv C (c_X10_isLetter _ _ _ _ _ _ b n t (psS b n p) (hrS b n (psS b n p)) 7 hrb hst.2.1 hst.2.2.2.2.1 hhr.2 hqn rfl (by decide)) dX10_isWord_102 jm_RX10_153 ⟨_, _, _, _, wO mO, rfl, rfl⟩ ⟨by decide, by decide, by decide, by decide⟩ rfl (Nat.le_of_ble_eq_true rfl) (fun r z hz => ?_)
                      obtain ⟨hb, hz⟩ := hz; have hz := hz.symm; subst hz
                      rcases hb with ⟨rfl, b_102⟩ | ⟨rfl, b_102⟩
                      · skip
                        refine j_if_eq (tgt := 112) C dX10_isWord_105 (by decide) (fun c => absurd c (by decide)) (fun _ => ?_)
                        refine j_iconst (v := 1) C dX10_isWord_108 rfl ?_
                        refine j_goto (tgt := 113) C dX10_isWord_109 (by decide) ?_
                        refine hret _ _ _ _ dX10_isWord_113 rfl ?_
                        refine ⟨Or.inl ⟨rfl, c_4, (kd_wd hw).mp ⟨hk, h8, fun i hi => ?_⟩⟩, rfl⟩
                        have hc : i = 0 ∨ i = 1 ∨ i = 2 ∨ i = 3 ∨ i = 4 ∨ i = 5 ∨ i = 6 ∨ i = 7 := by omega
                        rcases hc with rfl | rfl | rfl | rfl | rfl | rfl | rfl | rfl
                        · rw [← e0]; exact b_32
                        · rw [← e1]; exact b_41
                        · rw [← e2]; exact b_50
                        · rw [← e3]; exact b_60
                        · rw [← e4]; exact b_70
                        · rw [← e5]; exact b_80
                        · rw [← e6]; exact b_91
                        · rw [← e7]; exact b_102
                      · skip
                        have hno : ¬ (x.1 0 24 = 0 ∧ tcS b n p = nI w) := fun h => b_102 (by rw [e7]; exact ((kd_wd hw).mpr h.2).2.2 7 (by decide))
                        refine j_if_eq (tgt := 112) C dX10_isWord_105 (by decide) (fun _ => ?_) (fun c => absurd (by decide) c)
                        refine j_iconst (v := 0) C dX10_isWord_112 rfl ?_
                        refine hret _ _ _ _ dX10_isWord_113 rfl ?_
                        exact ⟨Or.inr ⟨rfl, hno⟩, rfl⟩
                    · skip
                      have hno : ¬ (x.1 0 24 = 0 ∧ tcS b n p = nI w) := fun h => b_91 (by rw [e6]; exact ((kd_wd hw).mpr h.2).2.2 6 (by decide))
                      refine j_if_eq (tgt := 112) C dX10_isWord_94 (by decide) (fun _ => ?_) (fun c => absurd (by decide) c)
                      refine j_iconst (v := 0) C dX10_isWord_112 rfl ?_
                      refine hret _ _ _ _ dX10_isWord_113 rfl ?_
                      exact ⟨Or.inr ⟨rfl, hno⟩, rfl⟩
                  · skip
                    have hno : ¬ (x.1 0 24 = 0 ∧ tcS b n p = nI w) := fun h => b_80 (by rw [e5]; exact ((kd_wd hw).mpr h.2).2.2 5 (by decide))
                    refine j_if_eq (tgt := 112) C dX10_isWord_83 (by decide) (fun _ => ?_) (fun c => absurd (by decide) c)
                    refine j_iconst (v := 0) C dX10_isWord_112 rfl ?_
                    refine hret _ _ _ _ dX10_isWord_113 rfl ?_
                    exact ⟨Or.inr ⟨rfl, hno⟩, rfl⟩
                · skip
                  have hno : ¬ (x.1 0 24 = 0 ∧ tcS b n p = nI w) := fun h => b_70 (by rw [e4]; exact ((kd_wd hw).mpr h.2).2.2 4 (by decide))
                  refine j_if_eq (tgt := 112) C dX10_isWord_73 (by decide) (fun _ => ?_) (fun c => absurd (by decide) c)
                  refine j_iconst (v := 0) C dX10_isWord_112 rfl ?_
                  refine hret _ _ _ _ dX10_isWord_113 rfl ?_
                  exact ⟨Or.inr ⟨rfl, hno⟩, rfl⟩
              · skip
                have hno : ¬ (x.1 0 24 = 0 ∧ tcS b n p = nI w) := fun h => b_60 (by rw [e3]; exact ((kd_wd hw).mpr h.2).2.2 3 (by decide))
                refine j_if_eq (tgt := 112) C dX10_isWord_63 (by decide) (fun _ => ?_) (fun c => absurd (by decide) c)
                refine j_iconst (v := 0) C dX10_isWord_112 rfl ?_
                refine hret _ _ _ _ dX10_isWord_113 rfl ?_
                exact ⟨Or.inr ⟨rfl, hno⟩, rfl⟩
            · skip
              have hno : ¬ (x.1 0 24 = 0 ∧ tcS b n p = nI w) := fun h => b_50 (by rw [e2]; exact ((kd_wd hw).mpr h.2).2.2 2 (by decide))
              refine j_if_eq (tgt := 112) C dX10_isWord_53 (by decide) (fun _ => ?_) (fun c => absurd (by decide) c)
              refine j_iconst (v := 0) C dX10_isWord_112 rfl ?_
              refine hret _ _ _ _ dX10_isWord_113 rfl ?_
              exact ⟨Or.inr ⟨rfl, hno⟩, rfl⟩
          · skip
            have hno : ¬ (x.1 0 24 = 0 ∧ tcS b n p = nI w) := fun h => b_41 (by rw [e1]; exact ((kd_wd hw).mpr h.2).2.2 1 (by decide))
            refine j_if_eq (tgt := 112) C dX10_isWord_44 (by decide) (fun _ => ?_) (fun c => absurd (by decide) c)
            refine j_iconst (v := 0) C dX10_isWord_112 rfl ?_
            refine hret _ _ _ _ dX10_isWord_113 rfl ?_
            exact ⟨Or.inr ⟨rfl, hno⟩, rfl⟩
        · skip
          have hno : ¬ (x.1 0 24 = 0 ∧ tcS b n p = nI w) := fun h => b_32 (by rw [e0]; exact ((kd_wd hw).mpr h.2).2.2 0 (by decide))
          refine j_if_eq (tgt := 112) C dX10_isWord_35 (by decide) (fun _ => ?_) (fun c => absurd (by decide) c)
          refine j_iconst (v := 0) C dX10_isWord_112 rfl ?_
          refine hret _ _ _ _ dX10_isWord_113 rfl ?_
          exact ⟨Or.inr ⟨rfl, hno⟩, rfl⟩
set_option maxHeartbeats 4000000 in
set_option maxRecDepth 100000 in
theorem c_X10_isSign (l : Launch) (g : jG) (a : Nat → Nat) (x : mS) (s : Int32) (hs : isS s) (b : Nat → Int32) (n t : Nat) (p : Nat) (hS : ¬ x.1 0 24 = 0 ∨ (rbM x b n t ∧ stM x b n (psS b n p))) : Ci l g yX10_isSign cX10_isSign 2 .boolean 0 0 0 0 (mW g a) [.ref (a 0), .int s] x (fun r z => ((r = 1 ∧ (x.1 0 24 = 0 ∧ tcS b n p = s)) ∨ (r = 0 ∧ ¬ (x.1 0 24 = 0 ∧ tcS b n p = s))) ∧ z = x) := by
  refine mk_i (by decide +kernel) rfl (fun KK hKl hKg C hin hret => ?_)
  subst hKl; subst hKg
  refine j_lv (lv' := [(0, _), (1, _)]) rfl ?_
  refine j_aload_n C dX10_isSign_0 rfl rfl ?_
  refine j_get C dX10_isSign_1 jf_RX10_146 (wO mO) rfl ?_
  refine j_if_ne (tgt := 29) C dX10_isSign_4 (by decide) (fun c_4 => ?_) (fun c_4 => ?_)
  · skip
    have hno : ¬ (x.1 0 24 = 0 ∧ tcS b n p = s) := fun h => c_4 h.1
    refine j_iconst (v := 0) C dX10_isSign_29 rfl ?_
    refine hret _ _ _ _ dX10_isSign_30 rfl ?_
    exact ⟨Or.inr ⟨rfl, hno⟩, rfl⟩
  · skip
    obtain ⟨hrb, hst⟩ := hS.resolve_left (fun h => h c_4)
    refine j_aload_n C dX10_isSign_7 rfl rfl ?_
    refine j_get C dX10_isSign_8 jf_RX10_129 (wO mO) rfl ?_
    refine j_iconst (v := 3) C dX10_isSign_11 rfl ?_
    refine j_icmp_ne (tgt := 29) C dX10_isSign_12 (by decide) (fun c_12 => ?_) (fun c_12 => ?_)
    · skip
      have hno : ¬ (x.1 0 24 = 0 ∧ tcS b n p = s) := fun h => c_12 (hst.2.2.2.1.trans ((kd_sg hs).mpr h.2).1)
      refine j_iconst (v := 0) C dX10_isSign_29 rfl ?_
      refine hret _ _ _ _ dX10_isSign_30 rfl ?_
      exact ⟨Or.inr ⟨rfl, hno⟩, rfl⟩
    · skip
      have hk : kdS b n (psS b n p) = 3 := hst.2.2.2.1.symm.trans c_12
      have hx2 := hst.2.2.2.2.2.2 hk
      refine j_aload_n C dX10_isSign_15 rfl rfl ?_
      refine j_get C dX10_isSign_16 jf_RX10_140 (wO mO) rfl ?_
      refine j_iload_n C dX10_isSign_19 rfl rfl ?_
      refine j_i2l C dX10_isSign_20 ?_
      refine j_lcmp C dX10_isSign_21 ?_
      refine j_if_ne (tgt := 29) C dX10_isSign_22 (by decide) (fun c_22 => ?_) (fun c_22 => ?_)
      · rw [lg_cmp_eq] at c_22
        have hno : ¬ (x.1 0 24 = 0 ∧ tcS b n p = s) := fun h => c_22 (hx2.trans ((kd_sg hs).mpr h.2).2)
        refine j_iconst (v := 0) C dX10_isSign_29 rfl ?_
        refine hret _ _ _ _ dX10_isSign_30 rfl ?_
        exact ⟨Or.inr ⟨rfl, hno⟩, rfl⟩
      · rw [lg_cmp_eq] at c_22
        refine j_iconst (v := 1) C dX10_isSign_25 rfl ?_
        refine j_goto (tgt := 30) C dX10_isSign_26 (by decide) ?_
        refine hret _ _ _ _ dX10_isSign_30 rfl ?_
        exact ⟨Or.inl ⟨rfl, c_4, (kd_sg hs).mp ⟨hk, hx2.symm.trans c_22⟩⟩, rfl⟩
set_option maxHeartbeats 4000000 in
set_option maxRecDepth 100000 in
theorem c_X10_opens (l : Launch) (g : jG) (a : Nat → Nat) (x : mS)  (b : Nat → Int32) (n t : Nat) (p D : Nat) (hrb : rbM x b n t) (hst : stM x b n (psS b n p)) (hop : x.1 0 23 = nI D) (hD : D ≤ 5) (h14 : ¬ tcS b n p = 14) (h15 : ¬ tcS b n p = 15) : Ci l g yX10_opens cX10_opens 1 .boolean 2 47 0 0 (mW g a) [.ref (a 0)] x (fun r z => if D = 5 then r = 0 ∧ z = flM x else r = 1 ∧ mF x z ∧ z.1 0 23 = nI (D + 1) ∧ stM z b n (psS b n (p + 1))) := by
  refine mk_i (by decide +kernel) rfl (fun KK hKl hKg C hin hret => ?_)
  subst hKl; subst hKg
  refine j_lv (lv' := [(0, _)]) rfl ?_
  refine j_aload_n C dX10_opens_0 rfl rfl ?_
  refine j_get C dX10_opens_1 jf_RX10_157 (wO mO) rfl ?_
  refine j_iconst (v := 5) C dX10_opens_4 rfl ?_
  refine j_icmp_ne (tgt := 14) C dX10_opens_5 (by decide) (fun c_5 => ?_) (fun c_5 => ?_)
  · skip
    have hD5 : ¬ D = 5 := fun h => c_5 (by rw [hop, h]; rfl)
    have hf0 : mF x (mU x 0 23 (x.1 0 23 + 1)) := mF_1 (by decide)
    refine j_aload_n C dX10_opens_14 rfl rfl ?_
    refine j_dup C dX10_opens_15 rfl ?_
    refine j_get C dX10_opens_16 jf_RX10_157 (wO mO) rfl ?_
    refine j_iconst (v := 1) C dX10_opens_19 rfl ?_
    refine j_iadd C dX10_opens_20 ?_
    refine j_put C dX10_opens_21 jp_RX10_157 (wO mO) (Nat.le_of_ble_eq_true rfl) rfl rfl (sMo 23 _ rfl) ?_
    refine j_aload_n C dX10_opens_24 rfl rfl ?_
    refine j_callvv C (c_X10_next _ _ _ _  b n t (tkE b n (psS b n p)) (rbM_m hrb hf0) (by rw [mU_1, uM_n (by decide), hst.2.2.2.2.1, (hr_ok h14 h15).1]) (tkE_gt (hr_ok h14 h15).2.1).2) dX10_opens_25 jm_RX10_163 ⟨_, _, _, _, wO mO, rfl, rfl⟩ ⟨by decide, by decide, by decide, by decide⟩ rfl (Nat.le_of_ble_eq_true rfl) (fun z_25 hz_25 => ?_)
    obtain ⟨hn_25, ht_25⟩ := hz_25
    rw [(hr_ok h14 h15).2.2] at ht_25
    refine j_iconst (v := 1) C dX10_opens_28 rfl ?_
    refine hret _ _ _ _ dX10_opens_29 rfl ?_
    rw [if_neg hD5]
    exact ⟨rfl, mF_t hf0 (nxF_m hn_25), by rw [hn_25.2 23 (by decide), mU_1, uM_s, hop, nI_1], by rw [hn_25.2 24 (by decide), mU_1, uM_n (by decide)]; exact hst.1, ht_25⟩
  · skip
    have hD5 : D = 5 := (nI_eq (b := 5) (by omega) (by decide)).mp (hop.symm.trans c_5)
    refine j_aload_n C dX10_opens_8 rfl rfl ?_
    refine j_callvv C (c_X10_fail _ _ _ _  ) dX10_opens_9 jm_RX10_160 ⟨_, _, _, _, wO mO, rfl, rfl⟩ ⟨by decide, by decide, by decide, by decide⟩ rfl (Nat.le_of_ble_eq_true rfl) (fun z_9 hz_9 => ?_)
    have hz_9 := hz_9.symm; subst hz_9
    refine j_iconst (v := 0) C dX10_opens_12 rfl ?_
    refine hret _ _ _ _ dX10_opens_13 rfl ?_
    rw [if_pos hD5]; exact ⟨rfl, rfl⟩
set_option maxHeartbeats 4000000 in
set_option maxRecDepth 100000 in
theorem c_X10_name (l : Launch) (g : jG) (a : Nat → Nat) (x : mS)  (b : Nat → Int32) (n t : Nat) (p : Nat) (hrb : rbM x b n t) (hst : stM x b n (psS b n p)) : Ci l g yX10_name cX10_name 1 .int 3 71 0 0 (mW g a) [.ref (a 0)] x (fun r z => if 1 ≤ tcS b n p ∧ tcS b n p ≤ 6 then r = nmS (eM x) (tcS b n p) ∧ z = x else r = 0 ∧ z = flM x) := by
  refine mk_i (by decide +kernel) rfl (fun KK hKl hKg C hin hret => ?_)
  subst hKl; subst hKg
  refine j_lv (lv' := [(0, _)]) rfl ?_
  refine j_aload_n C dX10_name_0 rfl rfl ?_
  refine j_bipush (v := 112) C dX10_name_1 rfl ?_
  refine j_bipush (v := 108) C dX10_name_3 rfl ?_
  refine j_bipush (v := 97) C dX10_name_5 rfl ?_
  refine j_bipush (v := 99) C dX10_name_7 rfl ?_
  refine j_bipush (v := 101) C dX10_name_9 rfl ?_
  refine j_iconst (v := 0) C dX10_name_11 rfl ?_
  refine j_iconst (v := 0) C dX10_name_12 rfl ?_
  refine j_iconst (v := 0) C dX10_name_13 rfl ?_
  refine j_calliv C (c_X10_isWord _ _ _ _ _ _ _ _ _ _ _ _ 1 (by decide) rfl rfl rfl rfl rfl rfl rfl rfl b n t p (Or.inr ⟨hrb, hst⟩)) dX10_name_14 jm_RX10_166 ⟨_, _, _, _, wO mO, rfl, rfl⟩ ⟨by decide, by decide, by decide, by decide⟩ rfl (Nat.le_of_ble_eq_true rfl) (fun r z hz => ?_)
  obtain ⟨hb, hz⟩ := hz; have hz := hz.symm; subst hz
  rcases hb with ⟨rfl, b_14⟩ | ⟨rfl, b_14⟩
  · skip
    refine j_if_eq (tgt := 25) C dX10_name_17 (by decide) (fun c => absurd c (by decide)) (fun _ => ?_)
    refine j_aload_n C dX10_name_20 rfl rfl ?_
    refine j_get C dX10_name_21 jf_RX10_170 (wO mO) rfl ?_
    refine hret _ _ _ _ dX10_name_24 rfl ?_
    rw [b_14.2, if_pos (by decide)]; exact ⟨rfl, rfl⟩
  · skip
    refine j_if_eq (tgt := 25) C dX10_name_17 (by decide) (fun _ => ?_) (fun c => absurd (by decide) c)
    refine j_aload_n C dX10_name_25 rfl rfl ?_
    refine j_bipush (v := 104) C dX10_name_26 rfl ?_
    refine j_bipush (v := 101) C dX10_name_28 rfl ?_
    refine j_bipush (v := 105) C dX10_name_30 rfl ?_
    refine j_bipush (v := 103) C dX10_name_32 rfl ?_
    refine j_bipush (v := 104) C dX10_name_34 rfl ?_
    refine j_bipush (v := 116) C dX10_name_36 rfl ?_
    refine j_iconst (v := 0) C dX10_name_38 rfl ?_
    refine j_iconst (v := 0) C dX10_name_39 rfl ?_
    refine j_calliv C (c_X10_isWord _ _ _ _ _ _ _ _ _ _ _ _ 2 (by decide) rfl rfl rfl rfl rfl rfl rfl rfl b n t p (Or.inr ⟨hrb, hst⟩)) dX10_name_40 jm_RX10_166 ⟨_, _, _, _, wO mO, rfl, rfl⟩ ⟨by decide, by decide, by decide, by decide⟩ rfl (Nat.le_of_ble_eq_true rfl) (fun r z hz => ?_)
    obtain ⟨hb, hz⟩ := hz; have hz := hz.symm; subst hz
    rcases hb with ⟨rfl, b_40⟩ | ⟨rfl, b_40⟩
    · skip
      refine j_if_eq (tgt := 51) C dX10_name_43 (by decide) (fun c => absurd c (by decide)) (fun _ => ?_)
      refine j_aload_n C dX10_name_46 rfl rfl ?_
      refine j_get C dX10_name_47 jf_RX10_173 (wO mO) rfl ?_
      refine hret _ _ _ _ dX10_name_50 rfl ?_
      rw [b_40.2, if_pos (by decide)]; exact ⟨rfl, rfl⟩
    · skip
      refine j_if_eq (tgt := 51) C dX10_name_43 (by decide) (fun _ => ?_) (fun c => absurd (by decide) c)
      refine j_aload_n C dX10_name_51 rfl rfl ?_
      refine j_bipush (v := 100) C dX10_name_52 rfl ?_
      refine j_bipush (v := 97) C dX10_name_54 rfl ?_
      refine j_bipush (v := 121) C dX10_name_56 rfl ?_
      refine j_iconst (v := 0) C dX10_name_58 rfl ?_
      refine j_iconst (v := 0) C dX10_name_59 rfl ?_
      refine j_iconst (v := 0) C dX10_name_60 rfl ?_
      refine j_iconst (v := 0) C dX10_name_61 rfl ?_
      refine j_iconst (v := 0) C dX10_name_62 rfl ?_
      refine j_calliv C (c_X10_isWord _ _ _ _ _ _ _ _ _ _ _ _ 3 (by decide) rfl rfl rfl rfl rfl rfl rfl rfl b n t p (Or.inr ⟨hrb, hst⟩)) dX10_name_63 jm_RX10_166 ⟨_, _, _, _, wO mO, rfl, rfl⟩ ⟨by decide, by decide, by decide, by decide⟩ rfl (Nat.le_of_ble_eq_true rfl) (fun r z hz => ?_)
      obtain ⟨hb, hz⟩ := hz; have hz := hz.symm; subst hz
      rcases hb with ⟨rfl, b_63⟩ | ⟨rfl, b_63⟩
      · skip
        refine j_if_eq (tgt := 74) C dX10_name_66 (by decide) (fun c => absurd c (by decide)) (fun _ => ?_)
        refine j_aload_n C dX10_name_69 rfl rfl ?_
        refine j_get C dX10_name_70 jf_RX10_176 (wO mO) rfl ?_
        refine hret _ _ _ _ dX10_name_73 rfl ?_
        rw [b_63.2, if_pos (by decide)]; exact ⟨rfl, rfl⟩
      · skip
        refine j_if_eq (tgt := 74) C dX10_name_66 (by decide) (fun _ => ?_) (fun c => absurd (by decide) c)
        refine j_aload_n C dX10_name_74 rfl rfl ?_
        refine j_bipush (v := 110) C dX10_name_75 rfl ?_
        refine j_bipush (v := 117) C dX10_name_77 rfl ?_
        refine j_bipush (v := 109) C dX10_name_79 rfl ?_
        refine j_bipush (v := 98) C dX10_name_81 rfl ?_
        refine j_bipush (v := 101) C dX10_name_83 rfl ?_
        refine j_bipush (v := 114) C dX10_name_85 rfl ?_
        refine j_iconst (v := 0) C dX10_name_87 rfl ?_
        refine j_iconst (v := 0) C dX10_name_88 rfl ?_
        refine j_calliv C (c_X10_isWord _ _ _ _ _ _ _ _ _ _ _ _ 4 (by decide) rfl rfl rfl rfl rfl rfl rfl rfl b n t p (Or.inr ⟨hrb, hst⟩)) dX10_name_89 jm_RX10_166 ⟨_, _, _, _, wO mO, rfl, rfl⟩ ⟨by decide, by decide, by decide, by decide⟩ rfl (Nat.le_of_ble_eq_true rfl) (fun r z hz => ?_)
        obtain ⟨hb, hz⟩ := hz; have hz := hz.symm; subst hz
        rcases hb with ⟨rfl, b_89⟩ | ⟨rfl, b_89⟩
        · skip
          refine j_if_eq (tgt := 100) C dX10_name_92 (by decide) (fun c => absurd c (by decide)) (fun _ => ?_)
          refine j_aload_n C dX10_name_95 rfl rfl ?_
          refine j_get C dX10_name_96 jf_RX10_179 (wO mO) rfl ?_
          refine hret _ _ _ _ dX10_name_99 rfl ?_
          rw [b_89.2, if_pos (by decide)]; exact ⟨rfl, rfl⟩
        · skip
          refine j_if_eq (tgt := 100) C dX10_name_92 (by decide) (fun _ => ?_) (fun c => absurd (by decide) c)
          refine j_aload_n C dX10_name_100 rfl rfl ?_
          refine j_bipush (v := 102) C dX10_name_101 rfl ?_
          refine j_bipush (v := 97) C dX10_name_103 rfl ?_
          refine j_bipush (v := 114) C dX10_name_105 rfl ?_
          refine j_iconst (v := 0) C dX10_name_107 rfl ?_
          refine j_iconst (v := 0) C dX10_name_108 rfl ?_
          refine j_iconst (v := 0) C dX10_name_109 rfl ?_
          refine j_iconst (v := 0) C dX10_name_110 rfl ?_
          refine j_iconst (v := 0) C dX10_name_111 rfl ?_
          refine j_calliv C (c_X10_isWord _ _ _ _ _ _ _ _ _ _ _ _ 5 (by decide) rfl rfl rfl rfl rfl rfl rfl rfl b n t p (Or.inr ⟨hrb, hst⟩)) dX10_name_112 jm_RX10_166 ⟨_, _, _, _, wO mO, rfl, rfl⟩ ⟨by decide, by decide, by decide, by decide⟩ rfl (Nat.le_of_ble_eq_true rfl) (fun r z hz => ?_)
          obtain ⟨hb, hz⟩ := hz; have hz := hz.symm; subst hz
          rcases hb with ⟨rfl, b_112⟩ | ⟨rfl, b_112⟩
          · skip
            refine j_if_eq (tgt := 123) C dX10_name_115 (by decide) (fun c => absurd c (by decide)) (fun _ => ?_)
            refine j_aload_n C dX10_name_118 rfl rfl ?_
            refine j_get C dX10_name_119 jf_RX10_182 (wO mO) rfl ?_
            refine hret _ _ _ _ dX10_name_122 rfl ?_
            rw [b_112.2, if_pos (by decide)]; exact ⟨rfl, rfl⟩
          · skip
            refine j_if_eq (tgt := 123) C dX10_name_115 (by decide) (fun _ => ?_) (fun c => absurd (by decide) c)
            refine j_aload_n C dX10_name_123 rfl rfl ?_
            refine j_bipush (v := 115) C dX10_name_124 rfl ?_
            refine j_bipush (v := 105) C dX10_name_126 rfl ?_
            refine j_bipush (v := 100) C dX10_name_128 rfl ?_
            refine j_bipush (v := 101) C dX10_name_130 rfl ?_
            refine j_iconst (v := 0) C dX10_name_132 rfl ?_
            refine j_iconst (v := 0) C dX10_name_133 rfl ?_
            refine j_iconst (v := 0) C dX10_name_134 rfl ?_
            refine j_iconst (v := 0) C dX10_name_135 rfl ?_
            refine j_calliv C (c_X10_isWord _ _ _ _ _ _ _ _ _ _ _ _ 6 (by decide) rfl rfl rfl rfl rfl rfl rfl rfl b n t p (Or.inr ⟨hrb, hst⟩)) dX10_name_136 jm_RX10_166 ⟨_, _, _, _, wO mO, rfl, rfl⟩ ⟨by decide, by decide, by decide, by decide⟩ rfl (Nat.le_of_ble_eq_true rfl) (fun r z hz => ?_)
            obtain ⟨hb, hz⟩ := hz; have hz := hz.symm; subst hz
            rcases hb with ⟨rfl, b_136⟩ | ⟨rfl, b_136⟩
            · skip
              refine j_if_eq (tgt := 147) C dX10_name_139 (by decide) (fun c => absurd c (by decide)) (fun _ => ?_)
              refine j_aload_n C dX10_name_142 rfl rfl ?_
              refine j_get C dX10_name_143 jf_RX10_185 (wO mO) rfl ?_
              refine hret _ _ _ _ dX10_name_146 rfl ?_
              rw [b_136.2, if_pos (by decide)]; exact ⟨rfl, rfl⟩
            · skip
              refine j_if_eq (tgt := 147) C dX10_name_139 (by decide) (fun _ => ?_) (fun c => absurd (by decide) c)
              refine j_aload_n C dX10_name_147 rfl rfl ?_
              refine j_callvv C (c_X10_fail _ _ _ _  ) dX10_name_148 jm_RX10_160 ⟨_, _, _, _, wO mO, rfl, rfl⟩ ⟨by decide, by decide, by decide, by decide⟩ rfl (Nat.le_of_ble_eq_true rfl) (fun z_148 hz_148 => ?_)
              have hz_148 := hz_148.symm; subst hz_148
              refine j_iconst (v := 0) C dX10_name_151 rfl ?_
              refine hret _ _ _ _ dX10_name_152 rfl ?_
              rw [if_neg (fun h => ?_)]
              · exact ⟨rfl, rfl⟩
              · obtain ⟨w, hw, e⟩ := nI_of (x := tcS b n p) (by have := h.1; simp only [Int32.lt_iff_toInt_lt, Int32.le_iff_toInt_le, ← Int32.toInt_inj, Int32.reduceToInt] at this ⊢; omega)
                have hlt : (nI w).toInt = w := nI_toInt hw
                have hc : w = 1 ∨ w = 2 ∨ w = 3 ∨ w = 4 ∨ w = 5 ∨ w = 6 := by rw [e] at h; simp only [Int32.lt_iff_toInt_lt, Int32.le_iff_toInt_le, ← Int32.toInt_inj, Int32.reduceToInt, hlt] at h; omega
                rcases hc with rfl | rfl | rfl | rfl | rfl | rfl
                · exact b_14 ⟨hst.1, e⟩
                · exact b_40 ⟨hst.1, e⟩
                · exact b_63 ⟨hst.1, e⟩
                · exact b_89 ⟨hst.1, e⟩
                · exact b_112 ⟨hst.1, e⟩
                · exact b_136 ⟨hst.1, e⟩
