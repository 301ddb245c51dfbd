/-! WHAT IS TOLD, AND WHAT CHANGES -/
theorem q_told {M : Nat → Nat → Int32} {x : mS} {n t ru s : Nat} {B : Nat → Nat → Int32} {N : Nat → Nat} (h : RelX M x n t ru s B N) {o w r r' : Int32} {M' : Nat → Nat → Int32} {x' : mS} (h1 : r = (if (0 ≤ w ∧ w ≤ 8) ∧ (w ≤ 2 ∨ (0 ≤ o ∧ o < M 0 1)) then tdS (M 2) (M (28 + o.toNatClampNeg)) w else -2) ∧ M' = M) (h2 : r' = (if (0 ≤ w ∧ w ≤ 8) ∧ (w ≤ 2 ∨ (0 ≤ o ∧ o < x.1 0 10)) then tdS (x.1 4) (gV x o.toNatClampNeg) w else -2) ∧ x' = x) : r = r' ∧ Rel M' x' := by
  obtain ⟨e1, rfl⟩ := h1
  obtain ⟨f1, rfl⟩ := h2
  refine ⟨?_, n, t, ru, s, B, N, h⟩
  rw [e1, f1, (Rx_e h).1]
  by_cases hc : (0 ≤ w ∧ w ≤ 8) ∧ (w ≤ 2 ∨ (0 ≤ o ∧ o < x'.1 0 10))
  · rw [if_pos hc, if_pos hc]
    by_cases hw : w ≤ 2
    · exact tdS_w hw h.2.2.1
    · exact tdS_c h.2.2.1 (Rx_g h (hc.2.resolve_left hw))
  · rw [if_neg hc, if_neg hc]
theorem q_taken {M : Nat → Nat → Int32} {x : mS} {n t ru s : Nat} {B : Nat → Nat → Int32} {N : Nat → Nat} (h : RelX M x n t ru s B N) {p q r r' : Int32} {M' : Nat → Nat → Int32} {x' : mS} (h1 : r = (if 0 ≤ q ∧ q < 6 then (if 0 ≤ p ∧ p < M 0 1 then (@ite _ (undF q 6 (M (28 + p.toNatClampNeg) 0)) (Classical.propDecidable _) (M (28 + p.toNatClampNeg) 1) (-13)) else -11) else -2) ∧ M' = M) (h2 : r' = (if 0 ≤ q ∧ q < 6 then (if 0 ≤ p ∧ p < x.1 0 10 then (@ite _ (undF q 6 (x.1 5 p.toNatClampNeg)) (Classical.propDecidable _) (x.1 6 (4 * p.toNatClampNeg)) (-13)) else -11) else -2) ∧ x' = x) : r = r' ∧ Rel M' x' := by
  obtain ⟨e1, rfl⟩ := h1
  obtain ⟨f1, rfl⟩ := h2
  refine ⟨?_, n, t, ru, s, B, N, h⟩
  rw [e1, f1, (Rx_e h).1]
  by_cases hc : 0 ≤ p ∧ p < x'.1 0 10
  · have g0 : M' (28 + p.toNatClampNeg) 0 = x'.1 5 p.toNatClampNeg := Rx_g h hc 0 (by decide)
    have g1 : M' (28 + p.toNatClampNeg) 1 = x'.1 6 (4 * p.toNatClampNeg) := Rx_g h hc 1 (by decide)
    rw [g0, g1]
  · rw [if_neg hc, if_neg hc]
theorem apS_comm {a b : Int32} : apS a b = apS b a := by
  unfold apS
  by_cases h1 : b < a
  · rw [if_pos h1, if_neg (fun h2 => by simp only [Int32.lt_iff_toInt_lt] at h1 h2; omega)]
  · rw [if_neg h1]
    by_cases h2 : a < b
    · rw [if_pos h2]
    · rw [if_neg h2]
      have : a = b := Int32.toInt_inj.mp (by simp only [Int32.lt_iff_toInt_lt] at h1 h2; omega)
      rw [this]
theorem q_count {M : Nat → Nat → Int32} {x : mS} {n t ru s : Nat} {B : Nat → Nat → Int32} {N : Nat → Nat} (h : RelX M x n t ru s B N) {w r r' : Int32} {M' : Nat → Nat → Int32} {x' : mS} (h1 : r = (if w = 0 then M 0 1 else if w = 1 then (if 0 ≤ M 2 1 - M 2 0 then M 2 1 - M 2 0 else 0 - (M 2 1 - M 2 0)) + 1 else if w = 2 then M 0 4 else if w = 3 then M 5 1 else if w = 4 then M 0 5 else -2) ∧ M' = M) (h2 : r' = (if w = 0 then x.1 0 10 else if w = 1 then apS (x.1 4 0) (x.1 4 1) + 1 else if w = 2 then x.1 0 3 else if w = 3 then x.1 0 6 else if w = 4 then x.1 0 4 else -2) ∧ x' = x) : r = r' ∧ Rel M' x' := by
  obtain ⟨e1, rfl⟩ := h1
  obtain ⟨f1, rfl⟩ := h2
  refine ⟨?_, n, t, ru, s, B, N, h⟩
  obtain ⟨k1, k2, k3, k4⟩ := Rx_e h
  have ha : apS (x'.1 4 0) (x'.1 4 1) = _ := apS_comm.trans (ap_en h.2.1.2.2.2.1.2 h.2.1.2.2.2.1.1)
  have e4 : M' 0 4 = x'.1 0 3 := h.1.2.1.1.trans h.2.1.2.1.1.symm
  have e5 : M' 0 5 = x'.1 0 4 := h.1.2.2.1.1.trans h.2.1.2.2.1.1.symm
  have e6 : M' 5 1 = x'.1 0 6 := h.2.2.2.2.2.1.1.trans h.2.2.2.2.2.1.2.1.symm
  rw [e1, f1, k1, k2, k3, ha, e4, e5, e6]
-- a glove's row
theorem gV_u {x : mS} {i c i' j : Nat} {v : Int32} (hc : c < 4) (hj : j < 5) : gV (mU x 6 (4 * i + c) v) i' j = if i' = i ∧ j = c + 1 then v else gV x i' j := by
  show (if j = 0 then (mU x 6 (4 * i + c) v).1 5 i' else (mU x 6 (4 * i + c) v).1 6 (4 * i' + (j - 1))) = if i' = i ∧ j = c + 1 then v else (if j = 0 then x.1 5 i' else x.1 6 (4 * i' + (j - 1)))
  rw [mU_1, uM_ne (by decide), uM_all]
  by_cases h0 : j = 0
  · rw [if_pos h0, if_neg (by omega), if_pos h0]
  · rw [if_neg h0, if_neg h0]
    by_cases h1 : i' = i ∧ j = c + 1
    · rw [if_pos h1, if_pos ⟨rfl, by omega⟩]
    · rw [if_neg h1, if_neg (by omega)]
theorem i32_19 {v : Int32} (h : 0 ≤ v ∧ v < 20) : 0 ≤ v ∧ v ≤ 19 := by
  simp only [Int32.lt_iff_toInt_lt, Int32.le_iff_toInt_le, Int32.reduceToInt] at h ⊢; omega
theorem q_set {M : Nat → Nat → Int32} {x : mS} {n t ru s : Nat} {B : Nat → Nat → Int32} {N : Nat → Nat} (h : RelX M x n t ru s B N) {w o v r r' : Int32} {M' : Nat → Nat → Int32} {x' : mS} (h1 : if seOk (M 0 1) w o v then (r = tdS (M 2) (M (28 + o.toNatClampNeg)) w ∧ M' = if w ≤ 2 then uM M 2 w.toNatClampNeg v else uM M (28 + o.toNatClampNeg) (w.toNatClampNeg - 2) v) else r = -2 ∧ M' = M) (h2 : if seOk (x.1 0 10) w o v then (r' = tdS (x.1 4) (gV x o.toNatClampNeg) w ∧ x' = lyX x w.toNatClampNeg o.toNatClampNeg v) else r' = -2 ∧ x' = x) : r = r' ∧ Rel M' x' := by
  rw [(Rx_e h).1] at h1
  by_cases hc : seOk (x.1 0 10) w o v
  · rw [if_pos hc] at h1 h2
    obtain ⟨e1, e2⟩ := h1
    obtain ⟨f1, f2⟩ := h2
    have hv := hc.1
    have hw6 := cn_0 (w := w) (by have := hv; simp only [Int32.lt_iff_toInt_lt, Int32.le_iff_toInt_le, Int32.reduceToInt] at this ⊢; omega)
    obtain ⟨j, hj, rfl⟩ := in_of (q := w) (m := 7) (B := 7) (by simp only [Int32.lt_iff_toInt_lt, Int32.le_iff_toInt_le, Int32.reduceToInt] at hw6 ⊢; omega) rfl
    have e_j : (nI j).toInt = j := nI_toInt (by omega)
    rw [nI_clamp (show j < 2147483648 by omega)] at e2 f2
    have hw2 : nI j ≤ 2 ↔ j < 3 := by simp only [Int32.le_iff_toInt_le, Int32.reduceToInt, e_j]; omega
    obtain ⟨a1, a2, a3, a4, a5, a6, a7, a8⟩ := h
    have h := (show RelX M x n t ru s B N from ⟨a1, a2, a3, a4, a5, a6, a7, a8⟩)
    by_cases hj3 : j < 3
    · refine ⟨by rw [e1, f1]; exact tdS_w (hw2.mpr hj3) a3, ?_⟩
      rw [if_pos (hw2.mpr hj3)] at e2
      rw [lyX, if_pos hj3] at f2
      subst e2; subst f2
      have hr : j < 2 → 0 ≤ v ∧ v ≤ 19 := fun h2 => i32_19 (by
        have : j = 0 ∨ j = 1 := by omega
        rcases this with rfl | rfl <;> exact hv)
      have h4 : (∀ i, i < 3 → uM M 2 j v 2 i = (mU x 4 j v).1 4 i) := fun i hi => by
        rw [mU_1, uM_eq, uM_eq, upd, upd]; split
        · rfl
        · exact a3 i hi
      have hwk : ∀ i, i < 2 → 0 ≤ (mU x 4 j v).1 4 i ∧ (mU x 4 j v).1 4 i ≤ 19 := fun i hi => by
        rw [mU_1, uM_eq, upd]; split
        · rename_i e; subst e; exact hr hi
        · have : i = 0 ∨ i = 1 := by omega
          rcases this with rfl | rfl
          · exact a2.2.2.2.1.1
          · exact a2.2.2.2.1.2
      refine ⟨n, t, ru, s, B, N, ⟨?_, ?_, ?_, ?_, ?_⟩, ⟨?_, ?_, ?_, ⟨hwk 0 (by decide), hwk 1 (by decide)⟩, fun i hi => tgM_h (a2.2.2.2.2.1 i hi) (by rw [mU_1, uM_ne (by decide)]) (by rw [mU_1, uM_ne (by decide)]), fun i hi => by rw [mU_1, uM_ne (by decide)]; exact a2.2.2.2.2.2 i hi⟩, h4, fun i hi k hk => ?_, fun i hi => by rw [mU_1, uM_ne (by decide)]; exact a5 i hi, ⟨by rw [uM_ne (by decide)]; exact a6.1, by rw [mU_1, uM_ne (by decide)]; exact a6.2.1, a6.2.2.1, fun i hi => by rw [uM_ne (by decide), mU_1, uM_ne (by decide)]; exact a6.2.2.2 i hi⟩, fun i hi => shR_c (a7 i hi) (uM_ne (by omega)) (uM_ne (by omega)) (fun k g1 g2 => by rw [mU_1, uM_ne (by omega)]), imR_c a8 (Nat.le_refl _) (Nat.le_refl _) (uM_ne (by decide)) (uM_ne (by decide)) (fun i _ => uM_ne (by omega)) (fun i _ => by rw [uM_ne (by omega)]) (by rw [mU_1, uM_ne (by decide)]) (by rw [mU_1, uM_ne (by decide)]) (by rw [mU_1, uM_ne (by decide)]) (by rw [mU_1, uM_ne (by decide)])⟩
      · rw [uM_ne (by decide)]; exact a1.1
      · rw [uM_ne (by decide)]; exact a1.2.1
      · rw [uM_ne (by decide)]; exact a1.2.2.1
      · rw [h4 0 (by decide), h4 1 (by decide)]; exact ⟨hwk 0 (by decide), hwk 1 (by decide)⟩
      · exact fun i hi => txR_c (a1.2.2.2.2 i hi) (uM_ne (by omega)) (uM_ne (by omega))
      · unfold mnR; rw [mU_1, uM_ne (by decide)]; exact a2.1
      · rw [mU_1, uM_ne (by decide)]; exact a2.2.1
      · rw [mU_1, uM_ne (by decide)]; exact a2.2.2.1
      · rw [uM_ne (by omega)]
        have e : gV (mU x 4 j v) i k = gV x i k := by
          show (if k = 0 then (mU x 4 j v).1 5 i else (mU x 4 j v).1 6 _) = _
          rw [mU_1, uM_ne (by decide), uM_ne (by decide)]
        rw [e]; exact a4 i hi k hk
    · have hno := hc.2.resolve_left (fun k => hj3 (hw2.mp k))
      have hi := Rx_i h hno
      have hn6 := a2.1.2
      refine ⟨by rw [e1, f1]; exact tdS_c a3 (Rx_g h hno), ?_⟩
      rw [if_neg (fun k => hj3 (hw2.mp k))] at e2
      rw [lyX, if_neg hj3, if_pos hj] at f2
      generalize o.toNatClampNeg = i at *
      subst e2; subst f2
      have hr : j = 4 → 0 ≤ v ∧ v ≤ 19 := fun h2 => i32_19 (by subst h2; exact hv)
      refine ⟨n, t, ru, s, B, N, inX_c a1 (uM_ne (by omega)) (uM_ne (by omega)) (fun k _ _ => uM_ne (by omega)), ⟨?_, ?_, ?_, ?_, fun k hk => tgM_h (a2.2.2.2.2.1 k hk) (by rw [mU_1, uM_ne (by decide)]) (by rw [mU_1, uM_ne (by decide)]), fun k hk => ?_⟩, fun k hk => by rw [uM_ne (by omega), mU_1, uM_ne (by decide)]; exact a3 k hk, fun i' hi' k hk => ?_, fun k hk => by rw [mU_1, uM_ne (by decide)]; exact a5 k hk, ⟨by rw [uM_ne (by omega)]; exact a6.1, by rw [mU_1, uM_ne (by decide)]; exact a6.2.1, a6.2.2.1, fun k hk => by rw [uM_ne (by omega), mU_1, uM_ne (by decide)]; exact a6.2.2.2 k hk⟩, fun k hk => shR_c (a7 k hk) (uM_ne (by omega)) (uM_ne (by omega)) (fun k g1 g2 => by rw [mU_1, uM_ne (by omega)]), imR_c a8 (Nat.le_refl _) (Nat.le_refl _) (uM_ne (by omega)) (uM_ne (by omega)) (fun k _ => uM_ne (by omega)) (fun k _ => ?_) (by rw [mU_1, uM_ne (by decide)]) (by rw [mU_1, uM_ne (by decide)]) (by rw [mU_1, uM_ne (by decide)]) (by rw [mU_1, uM_ne (by decide)])⟩
      · unfold mnR; rw [mU_1, uM_ne (by decide)]; exact a2.1
      · rw [mU_1, uM_ne (by decide)]; exact a2.2.1
      · rw [mU_1, uM_ne (by decide)]; exact a2.2.2.1
      · unfold wkR; rw [mU_1, uM_ne (by decide)]; exact a2.2.2.2.1
      · rw [mU_1, uM_all]
        split
        · rename_i e; exact hr (by omega)
        · exact a2.2.2.2.2.2 k hk
      · rw [gV_u (by omega) hk, uM_all]
        by_cases hh : i' = i ∧ k = j - 2
        · rw [if_pos ⟨by omega, hh.2⟩, if_pos ⟨hh.1, by omega⟩]
        · rw [if_neg (by omega), if_neg (by omega)]; exact a4 i' hi' k hk
      · rw [uM_all, if_neg (by omega)]
  · rw [if_neg hc] at h1 h2
    obtain ⟨e1, rfl⟩ := h1
    obtain ⟨f1, rfl⟩ := h2
    exact ⟨by rw [e1, f1], n, t, ru, s, B, N, h⟩
-- one glove more
theorem Rel_hg {M : Nat → Nat → Int32} {x : mS} {n t ru s : Nat} {B : Nat → Nat → Int32} {N : Nat → Nat} (h : RelX M x n t ru s B N) {k m p : Int32} (hg : glOk k m p) (hn : n < 6) : RelX (hgX M n k m p) (hgY x n k m p) (n + 1) t ru s B N := by
  obtain ⟨a1, a2, a3, a4, a5, a6, a7, a8⟩ := h
  have fX : ∀ q, q ≠ 0 → q ≠ 28 + n → hgX M n k m p q = M q := fun q h1 h2 => hgX_f h1 h2
  have f0 : ∀ j, j ≠ 1 → hgX M n k m p 0 j = M 0 j := fun j hj => by unfold hgX cmX; rw [uM_n hj, uM_ne (by omega), uM_ne (by omega), uM_ne (by omega), uM_ne (by omega), uM_ne (by omega)]
  have fY : ∀ q, q ≠ 0 → q ≠ 5 → q ≠ 6 → (hgY x n k m p).1 q = x.1 q := fun q h1 h2 h3 => hgY_f h1 h2 h3
  have g0 : ∀ j, j ≠ 10 → (hgY x n k m p).1 0 j = x.1 0 j := fun j hj => by unfold hgY; rw [mU_1, uM_n hj, mU_1, uM_ne (by decide), mU_1, uM_ne (by decide), mU_1, uM_ne (by decide), mU_1, uM_ne (by decide), mU_1, uM_ne (by decide)]
  have g5 : ∀ j, (hgY x n k m p).1 5 j = if j = n then k else x.1 5 j := fun j => by unfold hgY; rw [mU_1, uM_ne (by decide), mU_1, uM_ne (by decide), mU_1, uM_ne (by decide), mU_1, uM_ne (by decide), mU_1, uM_ne (by decide), mU_1, uM_all]; simp
  have g6 : ∀ j, (hgY x n k m p).1 6 j = if j = 4 * n + 3 then 0 else if j = 4 * n + 2 then 2 else if j = 4 * n + 1 then p else if j = 4 * n then m else x.1 6 j := fun j => by unfold hgY; rw [mU_1, uM_ne (by decide), mU_1, uM_all, mU_1, uM_all, mU_1, uM_all, mU_1, uM_all, mU_1, uM_ne (by decide)]; simp
  have fG : ∀ j, j < 5 → hgX M n k m p (28 + n) j = if j = 0 then k else if j = 1 then m else if j = 2 then p else if j = 3 then 2 else 0 := fun j hj => by
    unfold hgX cmX
    rw [uM_ne (by omega), uM_all, uM_all, uM_all, uM_all, uM_all]
    have hc : j = 0 ∨ j = 1 ∨ j = 2 ∨ j = 3 ∨ j = 4 := by omega
    rcases hc with rfl | rfl | rfl | rfl | rfl <;> simp
  have hp19 := i32_19 hg.2.2
  refine ⟨⟨⟨hgX_0, by omega⟩, by rw [f0 4 (by decide)]; exact a1.2.1, by rw [f0 5 (by decide)]; exact a1.2.2.1, by rw [fX 2 (by decide) (by omega)]; exact a1.2.2.2.1, fun j hj => txR_c (a1.2.2.2.2 j hj) (fX _ (by omega) (by omega)) (fX _ (by omega) (by omega))⟩, ⟨⟨hgY_n, by omega⟩, by rw [g0 3 (by decide)]; exact a2.2.1, by rw [g0 4 (by decide)]; exact a2.2.2.1, by unfold wkR; rw [fY 4 (by decide) (by decide) (by decide)]; exact a2.2.2.2.1, fun j hj => tgM_h (a2.2.2.2.2.1 j hj) (fY 1 (by decide) (by decide) (by decide)) (fY 2 (by decide) (by decide) (by decide)), fun i hi => ?_⟩, fun j hj => by rw [fX 2 (by decide) (by omega), fY 4 (by decide) (by decide) (by decide)]; exact a3 j hj, fun i hi j hj => ?_, fun i hi => ?_, ⟨by rw [fX 5 (by decide) (by omega)]; exact a6.1, by rw [g0 6 (by decide)]; exact a6.2.1, a6.2.2.1, fun i hi => by rw [fX 6 (by decide) (by omega), fY 3 (by decide) (by decide) (by decide)]; exact a6.2.2.2 i hi⟩, fun i hi => shR_c (a7 i hi) (fX _ (by omega) (by omega)) (fX _ (by omega) (by omega)) (fun q q1 q2 => fY q (by omega) (by omega) (by omega)), imR_c a8 (by omega) (Nat.le_refl _) (fX 11 (by decide) (by omega)) (fX 13 (by decide) (by omega)) (fun i _ => fX _ (by omega) (by omega)) (fun i hi => by rw [fX (28 + i) (by omega) (by omega)]) (g0 31 (by decide)) (g0 32 (by decide)) (fY 10 (by decide) (by decide) (by decide)) (fY 11 (by decide) (by decide) (by decide))⟩
  · rw [g6]
    by_cases hh : i = n
    · subst hh; rw [if_neg (by omega), if_neg (by omega), if_pos rfl]; exact hp19
    · rw [if_neg (by omega), if_neg (by omega), if_neg (by omega), if_neg (by omega)]; exact a2.2.2.2.2.2 i (by omega)
  · show _ = (if j = 0 then (hgY x n k m p).1 5 i else (hgY x n k m p).1 6 (4 * i + (j - 1)))
    rw [g5, g6]
    by_cases hh : i = n
    · subst hh
      rw [fG j hj, if_pos rfl]
      have hc : j = 0 ∨ j = 1 ∨ j = 2 ∨ j = 3 ∨ j = 4 := by omega
      rcases hc with rfl | rfl | rfl | rfl | rfl <;> simp
    · rw [fX (28 + i) (by omega) (by omega), a4 i (by omega) j hj, if_neg hh]
      show (if j = 0 then x.1 5 i else x.1 6 (4 * i + (j - 1))) = _
      by_cases h0 : j = 0
      · rw [if_pos h0, if_pos h0]
      · rw [if_neg h0, if_neg h0, if_neg (by omega), if_neg (by omega), if_neg (by omega), if_neg (by omega)]
  · rw [g5]
    split
    · exact hg.1
    · exact a5 i (by omega)
theorem q_glove {M : Nat → Nat → Int32} {x : mS} {n t ru s : Nat} {B : Nat → Nat → Int32} {N : Nat → Nat} (h : RelX M x n t ru s B N) {k m p r r' : Int32} {M' : Nat → Nat → Int32} {x' : mS} (h1 : if glOk k m p then (if n < 6 then r = nI n ∧ M' = hgX M n k m p else r = -4 ∧ M' = M) else r = -2 ∧ M' = M) (h2 : if glOk k m p then (if n < 6 then r' = nI n ∧ x' = hgY x n k m p else r' = -4 ∧ x' = x) else r' = -2 ∧ x' = x) : r = r' ∧ Rel M' x' := by
  by_cases hg : glOk k m p
  · rw [if_pos hg] at h1 h2
    by_cases hn : n < 6
    · rw [if_pos hn] at h1 h2
      obtain ⟨e1, rfl⟩ := h1
      obtain ⟨f1, rfl⟩ := h2
      exact ⟨by rw [e1, f1], n + 1, t, ru, s, B, N, Rel_hg h hg hn⟩
    · rw [if_neg hn] at h1 h2
      obtain ⟨e1, rfl⟩ := h1
      obtain ⟨f1, rfl⟩ := h2
      exact ⟨by rw [e1, f1], n, t, ru, s, B, N, h⟩
  · rw [if_neg hg] at h1 h2
    obtain ⟨e1, rfl⟩ := h1
    obtain ⟨f1, rfl⟩ := h2
    exact ⟨by rw [e1, f1], n, t, ru, s, B, N, h⟩

