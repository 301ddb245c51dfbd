/-! THE SHEETS, AN IMAGE -/
theorem Rel_sh {M : Nat → Nat → Int32} {x : mS} {n t ru s : Nat} {B : Nat → Nat → Int32} {N : Nat → Nat} (h : RelX M x n t ru s B N) {M' : Nat → Nat → Int32} {x' : mS} {c : Nat} (hc : c < 4) (hM : ∀ k, ¬ scX k → k ≠ 52 + 2 * c → k ≠ 52 + 2 * c + 1 → M' k = M k) (hx : ∀ k, k ≠ 0 → k ≠ 7 → k ≠ 8 → (k < 12 ∨ 15 < k) → x'.1 k = x.1 k) (h0 : ∀ j, (j < 11 ∨ 25 < j) → x'.1 0 j = x.1 0 j) (hs : ∀ i, i ≠ c → i < 4 → x'.1 12 i = x.1 12 i ∧ x'.1 13 i = x.1 13 i ∧ x'.1 14 i = x.1 14 i ∧ ∀ j, j < 40 → x'.1 15 (40 * i + j) = x.1 15 (40 * i + j)) (hn : shR M' x' c) : RelX M' x' n t ru s B N := by
  obtain ⟨a1, a2, a3, a4, a5, a6, a7, a8⟩ := h
  have hn6 := a2.1.2
  have fM : ∀ k, (k < 21 ∨ (28 ≤ k ∧ k < 52)) → M' k = M k := fun k hk => hM k (by unfold scX; omega) (by omega) (by omega)
  refine ⟨inX_c a1 (fM 0 (by decide)) (fM 2 (by decide)) (fun k q1 q2 => fM k (by omega)), inM_c a2 ⟨h0 10 (by decide), h0 3 (by decide), h0 4 (by decide)⟩ (hx 1 (by decide) (by decide) (by decide) (by decide)) (hx 2 (by decide) (by decide) (by decide) (by decide)) (hx 4 (by decide) (by decide) (by decide) (by decide)) (hx 6 (by decide) (by decide) (by decide) (by decide)), fun j hj => by rw [fM 2 (by decide), hx 4 (by decide) (by decide) (by decide) (by decide)]; exact a3 j hj, fun i hi j hj => ?_, fun i hi => by rw [hx 5 (by decide) (by decide) (by decide) (by decide)]; exact a5 i hi, ⟨by rw [fM 5 (by decide)]; exact a6.1, by rw [h0 6 (by decide)]; exact a6.2.1, a6.2.2.1, fun i hi => by rw [fM 6 (by decide), hx 3 (by decide) (by decide) (by decide) (by decide)]; exact a6.2.2.2 i hi⟩, fun i hi => ?_, imR_c a8 (Nat.le_refl _) (Nat.le_refl _) (fM 11 (by decide)) (fM 13 (by decide)) (fun i _ => fM _ (by omega)) (fun i hi => by rw [fM (28 + i) (by omega)]) (h0 31 (by decide)) (h0 32 (by decide)) (hx 10 (by decide) (by decide) (by decide) (by decide)) (hx 11 (by decide) (by decide) (by decide) (by decide))⟩
  · rw [fM (28 + i) (by omega), a4 i hi j hj]
    show (if j = 0 then x.1 5 i else x.1 6 (4 * i + (j - 1))) = (if j = 0 then x'.1 5 i else x'.1 6 (4 * i + (j - 1)))
    rw [hx 5 (by decide) (by decide) (by decide) (by decide), hx 6 (by decide) (by decide) (by decide) (by decide)]
  · by_cases hic : i = c
    · subst hic; exact hn
    · obtain ⟨e1, e2, e3, e4⟩ := hs i hic hi
      obtain ⟨sz, b1, b2, b3⟩ := a7 i hi
      have m1 : M' (52 + 2 * i) = M (52 + 2 * i) := hM _ (by unfold scX; omega) (by omega) (by omega)
      have m2 : M' (52 + 2 * i + 1) = M (52 + 2 * i + 1) := hM _ (by unfold scX; omega) (by omega) (by omega)
      refine ⟨sz, b1, by rw [m1]; exact b2, ?_⟩
      rw [m1, m2, e1, e2, e3]
      rcases b3 with b3 | ⟨c1, c2, c3, c4, c5⟩
      · exact Or.inl b3
      · exact Or.inr ⟨c1, c2, c3, c4, fun j hj => by rw [e4 j (by omega)]; exact c5 j hj⟩
theorem w8 {T : Nat → List Int32} {r : Nat → Int32} {f : Int32} {d : Nat} (h : 0 ≤ r 2 ∧ r 2 ≤ 19) : (whS T r f d).toInt8.toInt32 = whS T r f d := by
  by_cases hw : whS T r f d = -1
  · rw [hw]; decide
  · have h2 := wh_in h hw
    obtain ⟨j, hj, e⟩ := in_of (q := whS T r f d) (m := 20) (B := 20) (by simp only [Int32.lt_iff_toInt_lt, Int32.le_iff_toInt_le, Int32.reduceToInt] at h2 ⊢; omega) rfl
    rw [e]
    have all : ∀ k, k < 20 → (nI k).toInt8.toInt32 = nI k := by decide
    exact all j hj
theorem q_film {M : Nat → Nat → Int32} {x : mS} {n t ru s : Nat} {B : Nat → Nat → Int32} {N : Nat → Nat} (h : RelX M x n t ru s B N) {c p q r r' : Int32} {M' : Nat → Nat → Int32} {x' : mS}
    (h1 : if (0 ≤ c ∧ c < 4) ∧ (0 ≤ p ∧ p < M 0 1) ∧ (0 ≤ q ∧ q < 31) then r = q ∧ (∀ k, ¬ scX k → k ≠ 52 + 2 * c.toNatClampNeg → k ≠ 52 + 2 * c.toNatClampNeg + 1 → M' k = M k) ∧ M' (52 + 2 * c.toNatClampNeg) 1 = 0 ∧ M' (52 + 2 * c.toNatClampNeg) 2 = q ∧ (∀ d, d < q.toNatClampNeg → M' (52 + 2 * c.toNatClampNeg + 1) d = (whS (tM B N ru) (M (28 + p.toNatClampNeg)) (M 2 0) d).toInt8.toInt32) else r = -2 ∧ M' = M)
    (h2 : if (0 ≤ c ∧ c < 4) ∧ (0 ≤ p ∧ p < x.1 0 10) ∧ (0 ≤ q ∧ q < 31) then r' = q ∧ flQ x x' c.toNatClampNeg q.toNatClampNeg (whS (tM B N ru) (gV x p.toNatClampNeg) (x.1 4 0)) else r' = -2 ∧ mK x x') : r = r' ∧ Rel M' x' := by
  rw [(Rx_e h).1] at h1
  by_cases hc : (0 ≤ c ∧ c < 4) ∧ (0 ≤ p ∧ p < x.1 0 10) ∧ (0 ≤ q ∧ q < 31)
  · rw [if_pos hc] at h1 h2
    obtain ⟨e1, e2, e3, e4, e5⟩ := h1
    obtain ⟨f1, f2, f3, f4, f5, f6, f7, f8⟩ := h2
    obtain ⟨hc4, -⟩ := Rx_s h hc.1
    have hi := Rx_i h hc.2.1
    have hg := Rx_g h hc.2.1
    have hq := cl_lt (m := 31) (n := 31) hc.2.2.1 hc.2.2.2 rfl
    have eq := cl_nI hc.2.2.1
    refine ⟨by rw [e1, f1], n, t, ru, s, B, N, Rel_sh h hc4 e2 f2 f3 (fun i hi hi4 => ⟨by rw [f4, upd, if_neg hi], by rw [f5, upd, if_neg hi], by rw [f6, upd, if_neg hi], fun j hj => f7 _ (by omega)⟩) ⟨q.toNatClampNeg, by omega, by rw [e4]; exact eq, Or.inr ⟨by rw [e3, f5, upd, if_pos rfl], by rw [e3]; decide, by rw [f4, upd, if_pos rfl]; decide, by rw [f6, upd, if_pos rfl], fun j hj => ?_⟩⟩⟩
    rw [e5 j hj, f8 j hj, whS_c hg, (Rx_e h).2.1]
    exact w8 (h.2.1.2.2.2.2.2 _ hi)
  · rw [if_neg hc] at h1 h2
    obtain ⟨e1, rfl⟩ := h1
    exact ⟨by rw [e1, h2.1], n, t, ru, s, B, N, Rel_ask h fkX_r (mKw_k h2.2)⟩
theorem q_sheet {M : Nat → Nat → Int32} {x : mS} {n t ru s : Nat} {B : Nat → Nat → Int32} {N : Nat → Nat} (h : RelX M x n t ru s B N) {c k q r r' : Int32} {M' : Nat → Nat → Int32} {x' : mS}
    (h1 : if (0 ≤ c ∧ c < 4) ∧ (-1 ≤ k ∧ k ≤ 2) then (if k = -1 then r = 1 ∧ bcX M M' (52 + 2 * c.toNatClampNeg) (-1) 0 else if 40 < q then r = -2 ∧ M' = M else if q < 0 then r = -14 ∧ M' = M else r = 1 ∧ bcX M M' (52 + 2 * c.toNatClampNeg) k q) else r = -2 ∧ M' = M)
    (h2 : if (0 ≤ c ∧ c < 4) ∧ (-1 ≤ k ∧ k ≤ 2) then (if k = -1 then r' = 1 ∧ shY x x' c.toNatClampNeg k q else if 40 < q then r' = -2 ∧ x' = x else if q < 0 then r' = -14 ∧ x' = x else r' = 1 ∧ shY x x' c.toNatClampNeg k q) else r' = -2 ∧ x' = x) : r = r' ∧ Rel M' x' := by
  by_cases hc : (0 ≤ c ∧ c < 4) ∧ (-1 ≤ k ∧ k ≤ 2)
  · rw [if_pos hc] at h1 h2
    obtain ⟨hc4, -⟩ := Rx_s h hc.1
    by_cases hk : k = -1
    · rw [if_pos hk] at h1 h2
      obtain ⟨e1, e2, e3, e4⟩ := h1
      obtain ⟨f1, f2, f3, f4, f5, f6, f7, f8⟩ := h2
      exact ⟨by rw [e1, f1], n, t, ru, s, B, N, Rel_sh h hc4 (fun k _ => e4 k) (fun k _ _ _ => f8 k) (fun j _ => congrFun (f8 0 (by decide)) j) (fun i hi hi4 => ⟨by rw [f3, upd, if_neg hi], by rw [f4, upd, if_neg hi], by rw [f5, upd, if_neg hi], fun j hj => f6 _ (by omega)⟩) ⟨0, by decide, by rw [e2, upd, if_pos rfl]; rfl, Or.inl ⟨by rw [e2, upd, upd, if_neg (by decide), if_pos rfl], by rw [f3, upd, if_pos rfl, if_pos hk]⟩⟩⟩
    · rw [if_neg hk] at h1 h2
      by_cases h40 : 40 < q
      · rw [if_pos h40] at h1 h2
        obtain ⟨e1, rfl⟩ := h1
        obtain ⟨f1, rfl⟩ := h2
        exact ⟨by rw [e1, f1], n, t, ru, s, B, N, h⟩
      · rw [if_neg h40] at h1 h2
        by_cases h00 : q < 0
        · rw [if_pos h00] at h1 h2
          obtain ⟨e1, rfl⟩ := h1
          obtain ⟨f1, rfl⟩ := h2
          exact ⟨by rw [e1, f1], n, t, ru, s, B, N, h⟩
        · rw [if_neg h00] at h1 h2
          obtain ⟨e1, e2, e3, e4⟩ := h1
          obtain ⟨f1, f2, f3, f4, f5, f6, f7, f8⟩ := h2
          have hq : 0 ≤ q ∧ q < 41 := by simp only [Int32.lt_iff_toInt_lt, Int32.le_iff_toInt_le, Int32.reduceToInt] at h40 h00 ⊢; omega
          have hq2 := cl_lt (m := 41) (n := 41) hq.1 hq.2 rfl
          exact ⟨by rw [e1, f1], n, t, ru, s, B, N, Rel_sh h hc4 (fun k _ => e4 k) (fun k _ _ _ => f8 k) (fun j _ => congrFun (f8 0 (by decide)) j) (fun i hi hi4 => ⟨by rw [f3, upd, if_neg hi], by rw [f4, upd, if_neg hi], by rw [f5, upd, if_neg hi], fun j hj => f6 _ (by omega)⟩) ⟨q.toNatClampNeg, by omega, by rw [e2, upd, if_pos rfl]; exact cl_nI hq.1, Or.inr ⟨by rw [e2, upd, upd, if_neg (by decide), if_pos rfl, f4, upd, if_pos rfl], by rw [e2, upd, upd, if_neg (by decide), if_pos rfl]; exact hk, by rw [f3, upd, if_pos rfl, if_neg hk]; decide, by rw [f5, upd, if_pos rfl]; exact cl_nI hq.1, fun j hj => by rw [e3 j (by omega), f7 hk j hj]⟩⟩⟩
  · rw [if_neg hc] at h1 h2
    obtain ⟨e1, rfl⟩ := h1
    obtain ⟨f1, rfl⟩ := h2
    exact ⟨by rw [e1, f1], n, t, ru, s, B, N, h⟩
theorem nI_40 {i : Int32} {sz : Nat} (hs : sz ≤ 40) (h0 : 0 ≤ i) (h : i < nI sz) : i.toNatClampNeg < sz := cl_lt (m := nI sz) (n := sz) h0 h rfl (by omega)
theorem q_cell {M : Nat → Nat → Int32} {x : mS} {n t ru s : Nat} {B : Nat → Nat → Int32} {N : Nat → Nat} (h : RelX M x n t ru s B N) {c i v r r' : Int32} {M' : Nat → Nat → Int32} {x' : mS}
    (h1 : if 0 ≤ c ∧ c < 4 then (if M (52 + 2 * c.toNatClampNeg) 1 = -1 then r = -11 ∧ M' = M else if 0 ≤ i ∧ i < M (52 + 2 * c.toNatClampNeg) 2 ∧ i < 40 then r = 1 ∧ M' = uM M ((52 + 2 * c.toNatClampNeg) + 1) i.toNatClampNeg (if M (52 + 2 * c.toNatClampNeg) 1 = 0 then v.toInt8.toInt32 else if M (52 + 2 * c.toNatClampNeg) 1 = 1 then v.toInt16.toInt32 else v) else r = -12 ∧ M' = M) else r = -2 ∧ M' = M)
    (h2 : if 0 ≤ c ∧ c < 4 then (if x.1 12 c.toNatClampNeg = 0 then r' = -11 ∧ x' = x else if 0 ≤ i ∧ i < x.1 14 c.toNatClampNeg then r' = 1 ∧ x' = mU x 15 (40 * c.toNatClampNeg + i.toNatClampNeg) (if x.1 13 c.toNatClampNeg = 0 then v.toInt8.toInt32 else if x.1 13 c.toNatClampNeg = 1 then v.toInt16.toInt32 else v) else r' = -12 ∧ x' = x) else r' = -2 ∧ x' = x) : r = r' ∧ Rel M' x' := by
  by_cases hc : 0 ≤ c ∧ c < 4
  · rw [if_pos hc] at h1 h2
    obtain ⟨hc4, sz, b1, b2, b3⟩ := Rx_s h hc
    generalize c.toNatClampNeg = cN at *
    rcases b3 with ⟨g1, g2⟩ | ⟨g1, g2, g3, g4, g5⟩
    · rw [if_pos g1] at h1
      rw [if_pos g2] at h2
      obtain ⟨e1, rfl⟩ := h1
      obtain ⟨f1, rfl⟩ := h2
      exact ⟨by rw [e1, f1], n, t, ru, s, B, N, h⟩
    · rw [if_neg g2, b2] at h1
      rw [if_neg g3, g4] at h2
      by_cases hi : 0 ≤ i ∧ i < nI sz
      · have hN := nI_40 b1 hi.1 hi.2
        rw [if_pos ⟨hi.1, hi.2, by
          have e := cl_toInt hi.1
          simp only [Int32.lt_iff_toInt_lt, Int32.reduceToInt]; omega⟩] at h1
        rw [if_pos hi] at h2
        obtain ⟨e1, rfl⟩ := h1
        obtain ⟨f1, rfl⟩ := h2
        refine ⟨by rw [e1, f1], n, t, ru, s, B, N, Rel_sh h hc4 (fun k _ _ hk => uM_ne hk) (fun k _ _ _ hk => by rw [mU_1, uM_ne (by omega)]) (fun j _ => by rw [mU_1, uM_ne (by decide)]) (fun i' hi' hi4 => ⟨by rw [mU_1, uM_ne (by decide)], by rw [mU_1, uM_ne (by decide)], by rw [mU_1, uM_ne (by decide)], fun j hj => by rw [mU_1, uM_n (by omega)]⟩) ⟨sz, b1, by rw [uM_ne (by omega)]; exact b2, Or.inr ⟨by rw [uM_ne (by omega), mU_1, uM_ne (by decide)]; exact g1, by rw [uM_ne (by omega)]; exact g2, by rw [mU_1, uM_ne (by decide)]; exact g3, by rw [mU_1, uM_ne (by decide)]; exact g4, fun j hj => ?_⟩⟩⟩
        rw [mU_1, uM_all, uM_all, g1]
        generalize (if x.1 13 cN = 0 then v.toInt8.toInt32 else if x.1 13 cN = 1 then v.toInt16.toInt32 else v) = V
        by_cases hj2 : j = i.toNatClampNeg
        · rw [if_pos ⟨rfl, hj2⟩, if_pos ⟨rfl, by omega⟩]
        · rw [if_neg (fun k => hj2 k.2), if_neg (by omega)]; exact g5 j hj
      · rw [if_neg (fun k => hi ⟨k.1, k.2.1⟩)] at h1
        rw [if_neg hi] at h2
        obtain ⟨e1, rfl⟩ := h1
        obtain ⟨f1, rfl⟩ := h2
        exact ⟨by rw [e1, f1], n, t, ru, s, B, N, h⟩
  · rw [if_neg hc] at h1 h2
    obtain ⟨e1, rfl⟩ := h1
    obtain ⟨f1, rfl⟩ := h2
    exact ⟨by rw [e1, f1], n, t, ru, s, B, N, h⟩
theorem q_copy {M : Nat → Nat → Int32} {x : mS} {n t ru s : Nat} {B : Nat → Nat → Int32} {N : Nat → Nat} (h : RelX M x n t ru s B N) {c p o q m r r' : Int32} {M' : Nat → Nat → Int32} {x' : mS}
    (h1 : if (0 ≤ c ∧ c < 4) ∧ (0 ≤ o ∧ o < 4) then (if M (52 + 2 * c.toNatClampNeg) 1 = -1 ∨ M (52 + 2 * o.toNatClampNeg) 1 = -1 then r = -11 ∧ M' = M else if ¬ M (52 + 2 * c.toNatClampNeg) 1 = M (52 + 2 * o.toNatClampNeg) 1 then r = -13 ∧ M' = M else if (0 ≤ p ∧ 0 ≤ m ∧ m ≤ M (52 + 2 * c.toNatClampNeg) 2 ∧ p ≤ M (52 + 2 * c.toNatClampNeg) 2 - m ∧ M (52 + 2 * c.toNatClampNeg) 2 ≤ 40) ∧ (0 ≤ q ∧ 0 ≤ m ∧ m ≤ M (52 + 2 * o.toNatClampNeg) 2 ∧ q ≤ M (52 + 2 * o.toNatClampNeg) 2 - m ∧ M (52 + 2 * o.toNatClampNeg) 2 ≤ 40) then r = m ∧ M' = uR M ((52 + 2 * o.toNatClampNeg) + 1) (va_cpy (M ((52 + 2 * c.toNatClampNeg) + 1)) (M ((52 + 2 * o.toNatClampNeg) + 1)) p.toNatClampNeg q.toNatClampNeg m.toNatClampNeg) else r = -12 ∧ M' = M) else r = -2 ∧ M' = M)
    (h2 : if (0 ≤ c ∧ c < 4) ∧ (0 ≤ o ∧ o < 4) then (if x.1 12 c.toNatClampNeg = 0 ∨ x.1 12 o.toNatClampNeg = 0 then r' = -11 ∧ x' = x else if ¬ x.1 13 c.toNatClampNeg = x.1 13 o.toNatClampNeg then r' = -13 ∧ x' = x else if (0 ≤ p ∧ 0 ≤ m ∧ m ≤ x.1 14 c.toNatClampNeg ∧ p ≤ x.1 14 c.toNatClampNeg - m) ∧ (0 ≤ q ∧ m ≤ x.1 14 o.toNatClampNeg ∧ q ≤ x.1 14 o.toNatClampNeg - m) then r' = m ∧ cpQ x x' c.toNatClampNeg o.toNatClampNeg p.toNatClampNeg q.toNatClampNeg m.toNatClampNeg else r' = -12 ∧ x' = x) else r' = -2 ∧ x' = x) : r = r' ∧ Rel M' x' := by
  by_cases hc : (0 ≤ c ∧ c < 4) ∧ (0 ≤ o ∧ o < 4)
  · rw [if_pos hc] at h1 h2
    obtain ⟨hc4, sz, b1, b2, b3⟩ := Rx_s h hc.1
    obtain ⟨ho4, so, d1, d2, d3⟩ := Rx_s h hc.2
    generalize c.toNatClampNeg = cN at *
    generalize o.toNatClampNeg = oN at *
    have same : ∀ {e f : Int32}, r = e → r' = e → M' = M → x' = x → r = r' ∧ Rel M' x' := fun a1 a2 a3 a4 => by subst a3; subst a4; exact ⟨by rw [a1, a2], n, t, ru, s, B, N, h⟩
    by_cases hm : x.1 12 cN = 0 ∨ x.1 12 oN = 0
    · have hm' : M (52 + 2 * cN) 1 = -1 ∨ M (52 + 2 * oN) 1 = -1 := hm.elim (fun k => Or.inl (b3.elim (fun q => q.1) (fun q => absurd k q.2.2.1))) (fun k => Or.inr (d3.elim (fun q => q.1) (fun q => absurd k q.2.2.1)))
      rw [if_pos hm'] at h1
      rw [if_pos hm] at h2
      exact same (f := 0) h1.1 h2.1 h1.2 h2.2
    · obtain ⟨g1, g2, g3, g4, g5⟩ := b3.resolve_left (fun k => hm (Or.inl k.2))
      obtain ⟨k1, k2, k3, k4, k5⟩ := d3.resolve_left (fun k => hm (Or.inr k.2))
      rw [if_neg (fun k => k.elim g2 k2)] at h1
      rw [if_neg hm] at h2
      rw [g1, k1] at h1
      by_cases hd : ¬ x.1 13 cN = x.1 13 oN
      · rw [if_pos hd] at h1 h2
        exact same (f := 0) h1.1 h2.1 h1.2 h2.2
      · rw [if_neg hd, b2, d2] at h1
        rw [if_neg hd, g4, k4] at h2
        have e_sz : (nI sz).toInt = sz := nI_toInt (by omega)
        have e_so : (nI so).toInt = so := nI_toInt (by omega)
        by_cases hk : (0 ≤ p ∧ 0 ≤ m ∧ m ≤ nI sz ∧ p ≤ nI sz - m) ∧ (0 ≤ q ∧ m ≤ nI so ∧ q ≤ nI so - m)
        · have h40 : nI sz ≤ 40 ∧ nI so ≤ 40 := by simp only [Int32.le_iff_toInt_le, Int32.reduceToInt, e_sz, e_so]; omega
          rw [if_pos ⟨⟨hk.1.1, hk.1.2.1, hk.1.2.2.1, hk.1.2.2.2, h40.1⟩, hk.2.1, hk.1.2.1, hk.2.2.1, hk.2.2.2, h40.2⟩] at h1
          rw [if_pos hk] at h2
          obtain ⟨e1, rfl⟩ := h1
          obtain ⟨f1, f2, f3, f4⟩ := h2
          have ep := cl_toInt hk.1.1
          have em := cl_toInt hk.1.2.1
          have eq := cl_toInt hk.2.1
          have hb : p.toNatClampNeg + m.toNatClampNeg ≤ sz ∧ q.toNatClampNeg + m.toNatClampNeg ≤ so := by
            have q1 := hk.1.2.2.1; have q2 := hk.1.2.2.2; have q3 := hk.2.2.1; have q4 := hk.2.2.2
            simp only [Int32.le_iff_toInt_le] at q1 q2 q3 q4
            rw [e_sz] at q1; rw [e_so] at q3
            rw [i32_sub (by rw [e_sz]; omega) (by rw [e_sz]; omega), e_sz] at q2
            rw [i32_sub (by rw [e_so]; omega) (by rw [e_so]; omega), e_so] at q4
            omega
          generalize p.toNatClampNeg = pN at *
          generalize q.toNatClampNeg = qN at *
          generalize m.toNatClampNeg = mN at *
          have hU : ∀ k, k ≠ 52 + 2 * oN + 1 → uR M (52 + 2 * oN + 1) (va_cpy (M (52 + 2 * cN + 1)) (M (52 + 2 * oN + 1)) pN qN mN) k = M k := fun k hk => if_neg hk
          have hV : uR M (52 + 2 * oN + 1) (va_cpy (M (52 + 2 * cN + 1)) (M (52 + 2 * oN + 1)) pN qN mN) (52 + 2 * oN + 1) = va_cpy (M (52 + 2 * cN + 1)) (M (52 + 2 * oN + 1)) pN qN mN := if_pos rfl
          refine ⟨by rw [e1, f1], n, t, ru, s, B, N, Rel_sh h ho4 (fun k _ _ hk => hU k hk) (fun k _ _ _ hk => f3 k (by omega)) (fun j _ => congrFun (f3 0 (by decide)) j) (fun i' hi' hi4 => ⟨congrFun (f3 12 (by decide)) _, congrFun (f3 13 (by decide)) _, congrFun (f3 14 (by decide)) _, fun j hj => by rw [f4, if_neg (by omega)]⟩) ⟨so, d1, by rw [hU _ (by omega)]; exact d2, Or.inr ⟨by rw [hU _ (by omega), f3 13 (by decide)]; exact k1, by rw [hU _ (by omega)]; exact k2, by rw [f3 12 (by decide)]; exact k3, by rw [f3 14 (by decide)]; exact k4, fun j hj => ?_⟩⟩⟩
          rw [hV, f4]
          unfold va_cpy
          by_cases hj2 : qN ≤ j ∧ j < qN + mN
          · rw [if_pos hj2, if_pos (by omega), g5 _ (by omega)]
            exact congrArg _ (by omega)
          · rw [if_neg hj2, if_neg (by omega)]; exact k5 j hj
        · rw [if_neg (fun k => hk ⟨⟨k.1.1, k.1.2.1, k.1.2.2.1, k.1.2.2.2.1⟩, k.2.1, k.2.2.2.1, k.2.2.2.2.1⟩)] at h1
          rw [if_neg hk] at h2
          exact same (f := 0) h1.1 h2.1 h1.2 h2.2
  · rw [if_neg hc] at h1 h2
    obtain ⟨e1, rfl⟩ := h1
    obtain ⟨f1, rfl⟩ := h2
    exact ⟨by rw [e1, f1], n, t, ru, s, B, N, h⟩
/-- gloves by a sheet, on both sides -/
theorem rn_XY {it it' : Nat → Int32} {sz : Nat} (hs : sz ≤ 40) (hit : ∀ j, j < sz → it j = it' j) {t ru s : Nat} {B : Nat → Nat → Int32} {N : Nat → Nat} : ∀ (k : Nat) (p : Int32) (M : Nat → Nat → Int32) (x : mS) (n : Nat) (c : Int32), RelX M x n t ru s B N → (rnX it (nI sz) k p M n c).1 = (rnY it' (nI sz) k p x n c).1 ∧ Rel (rnX it (nI sz) k p M n c).2.1 (rnY it' (nI sz) k p x n c).2.1
  | 0, _, _, _, n, _, h => ⟨rfl, n, t, ru, s, B, N, h⟩
  | k + 1, p, M, x, n, c, h => by
    rw [rnX, rnY]
    by_cases hp : 0 ≤ p ∧ 3 ≤ nI sz ∧ p ≤ nI sz - 3
    · rw [if_pos hp, if_pos hp]
      have e_sz : (nI sz).toInt = sz := nI_toInt (by omega)
      have hb : p.toNatClampNeg + 3 ≤ sz := by
        have ep := cl_toInt hp.1
        have q2 := hp.2.2
        simp only [Int32.le_iff_toInt_le] at q2
        rw [i32_sub (by rw [e_sz]; simp; omega) (by rw [e_sz]; simp; omega), e_sz] at q2
        simp at q2; omega
      rw [hit p.toNatClampNeg (by omega), hit (p.toNatClampNeg + 1) (by omega), hit (p.toNatClampNeg + 2) (by omega)]
      by_cases hg : glOk (it' p.toNatClampNeg) (it' (p.toNatClampNeg + 1)) (it' (p.toNatClampNeg + 2)) ∧ n < 6
      · rw [if_pos hg, if_pos hg]
        exact rn_XY hs hit k _ _ _ _ _ (Rel_hg h hg.1 hg.2)
      · rw [if_neg hg, if_neg hg]
        exact rn_XY hs hit k _ _ _ _ _ h
    · rw [if_neg hp, if_neg hp]
      exact ⟨rfl, n, t, ru, s, B, N, h⟩
theorem q_gloves {M : Nat → Nat → Int32} {x : mS} {n t ru s : Nat} {B : Nat → Nat → Int32} {N : Nat → Nat} (h : RelX M x n t ru s B N) {c k p m r r' : Int32} {M' : Nat → Nat → Int32} {x' : mS}
    (h1 : if (0 ≤ c ∧ c < 4) ∧ (0 ≤ k ∧ k < 3) ∧ (0 ≤ m ∧ m < 7) then (if ¬ M (52 + 2 * c.toNatClampNeg) 1 = -1 ∧ ¬ M (52 + 2 * c.toNatClampNeg) 1 = k then r = -13 ∧ M' = M else if M (52 + 2 * c.toNatClampNeg) 1 = -1 then r = -11 ∧ M' = M else r = (rnX (M (52 + 2 * c.toNatClampNeg + 1)) (M (52 + 2 * c.toNatClampNeg) 2) m.toNatClampNeg p M n 0).1 ∧ M' = (rnX (M (52 + 2 * c.toNatClampNeg + 1)) (M (52 + 2 * c.toNatClampNeg) 2) m.toNatClampNeg p M n 0).2.1) else r = -2 ∧ M' = M)
    (h2 : if (0 ≤ c ∧ c < 4) ∧ (0 ≤ k ∧ k < 3) ∧ (0 ≤ m ∧ m < 7) then (if ¬ x.1 12 c.toNatClampNeg = 0 ∧ ¬ x.1 13 c.toNatClampNeg = k then r' = -13 ∧ x' = x else if x.1 12 c.toNatClampNeg = 0 then r' = -11 ∧ x' = x else r' = (rnY (fun j => x.1 15 (40 * c.toNatClampNeg + j)) (x.1 14 c.toNatClampNeg) m.toNatClampNeg p x n 0).1 ∧ x' = (rnY (fun j => x.1 15 (40 * c.toNatClampNeg + j)) (x.1 14 c.toNatClampNeg) m.toNatClampNeg p x n 0).2.1) else r' = -2 ∧ x' = x) : r = r' ∧ Rel M' x' := by
  by_cases hc : (0 ≤ c ∧ c < 4) ∧ (0 ≤ k ∧ k < 3) ∧ (0 ≤ m ∧ m < 7)
  · rw [if_pos hc] at h1 h2
    obtain ⟨hc4, sz, b1, b2, b3⟩ := Rx_s h hc.1
    generalize c.toNatClampNeg = cN at *
    rcases b3 with ⟨g1, g2⟩ | ⟨g1, g2, g3, g4, g5⟩
    · rw [if_neg (fun q => q.1 g1), if_pos g1] at h1
      rw [if_neg (fun q => q.1 g2), if_pos g2] at h2
      obtain ⟨e1, rfl⟩ := h1
      obtain ⟨f1, rfl⟩ := h2
      exact ⟨by rw [e1, f1], n, t, ru, s, B, N, h⟩
    · by_cases hk : x.1 13 cN = k
      · rw [if_neg (fun q => q.2 (g1.trans hk)), if_neg g2, b2] at h1
        rw [if_neg (fun q => q.2 hk), if_neg g3, g4] at h2
        have := rn_XY b1 (it := M (52 + 2 * cN + 1)) (it' := fun j => x.1 15 (40 * cN + j)) g5 m.toNatClampNeg p M x n 0 h
        rw [h1.1, h1.2, h2.1, h2.2]
        exact this
      · rw [if_pos ⟨g2, fun q => hk (g1.symm.trans q)⟩] at h1
        rw [if_pos ⟨g3, hk⟩] at h2
        obtain ⟨e1, rfl⟩ := h1
        obtain ⟨f1, rfl⟩ := h2
        exact ⟨by rw [e1, f1], n, t, ru, s, B, N, h⟩
  · rw [if_neg hc] at h1 h2
    obtain ⟨e1, rfl⟩ := h1
    obtain ⟨f1, rfl⟩ := h2
    exact ⟨by rw [e1, f1], n, t, ru, s, B, N, h⟩
theorem q_image {M : Nat → Nat → Int32} {x : mS} {n t ru s : Nat} {B : Nat → Nat → Int32} {N : Nat → Nat} (h : RelX M x n t ru s B N) {r r' : Int32} {M' : Nat → Nat → Int32} {x' : mS}
    (h1 : r = nI n ∧ M' 11 2 = nI n ∧ M' 11 3 = M 0 5 ∧ M' 11 4 = 1 ∧ (∀ j, j < 3 → M' 13 j = M 2 j) ∧ (∀ i, i < n → ∀ j, j < 5 → M' (14 + i) j = M (28 + i) j) ∧ ∀ k, k ≠ 11 → (k < 13 ∨ 20 ≤ k) → M' k = M k)
    (h2 : r' = x.1 0 10 ∧ x'.2 = x.2 ∧ (∀ j, j < 3 → x'.1 10 j = x.1 4 j) ∧ (∀ j, j < 24 → x'.1 11 j = x.1 6 j) ∧ x'.1 0 31 = x.1 0 10 ∧ x'.1 0 32 = x.1 0 4 ∧ (∀ c, c ≠ 0 → c ≠ 10 → c ≠ 11 → x'.1 c = x.1 c) ∧ (∀ j, j ≠ 31 → j ≠ 32 → x'.1 0 j = x.1 0 j)) : r = r' ∧ Rel M' x' := by
  obtain ⟨e1, e2, e3, e4, e5, e6, e7⟩ := h1
  obtain ⟨f1, f2, f3, f4, f5, f6, f7, f8⟩ := h2
  obtain ⟨a1, a2, a3, a4, a5, a6, a7, a8⟩ := h
  have hn6 := a2.1.2
  have fM : ∀ k, k ≠ 11 → (k < 13 ∨ 20 ≤ k) → M' k = M k := e7
  refine ⟨by rw [e1, f1]; exact a2.1.1.symm, n, t, ru, s, B, N, inX_c a1 (fM 0 (by decide) (by decide)) (fM 2 (by decide) (by decide)) (fun k _ _ => fM k (by omega) (by omega)), inM_c a2 ⟨f8 10 (by decide) (by decide), f8 3 (by decide) (by decide), f8 4 (by decide) (by decide)⟩ (f7 1 (by decide) (by decide) (by decide)) (f7 2 (by decide) (by decide) (by decide)) (f7 4 (by decide) (by decide) (by decide)) (f7 6 (by decide) (by decide) (by decide)), fun j hj => by rw [fM 2 (by decide) (by decide), f7 4 (by decide) (by decide) (by decide)]; exact a3 j hj, fun i hi j hj => ?_, fun i hi => by rw [f7 5 (by decide) (by decide) (by decide)]; exact a5 i hi, ⟨by rw [fM 5 (by decide) (by decide)]; exact a6.1, by rw [f8 6 (by decide) (by decide)]; exact a6.2.1, a6.2.2.1, fun i hi => by rw [fM 6 (by decide) (by decide), f7 3 (by decide) (by decide) (by decide)]; exact a6.2.2.2 i hi⟩, fun i hi => shR_c (a7 i hi) (fM _ (by omega) (by omega)) (fM _ (by omega) (by omega)) (fun k _ _ => f7 k (by omega) (by omega) (by omega)), n, hn6, e2, Or.inr ⟨by rw [e4]; decide, Nat.le_refl _, by rw [f5]; exact a2.1.1, ⟨ru, a1.2.2.1.2, by rw [e3]; exact a1.2.2.1.1, by rw [f6]; exact a2.2.2.1.1⟩, fun j hj => by rw [e5 j hj, f3 j hj]; exact a3 j hj, by rw [f3 0 (by decide), f3 1 (by decide)]; exact a2.2.2.2.1, fun i hi => ⟨?_, fun j hj => ?_, ?_⟩⟩⟩
  · rw [fM (28 + i) (by omega) (by omega), a4 i hi j hj]
    show (if j = 0 then x.1 5 i else x.1 6 (4 * i + (j - 1))) = (if j = 0 then x'.1 5 i else x'.1 6 (4 * i + (j - 1)))
    rw [f7 5 (by decide) (by decide) (by decide), f7 6 (by decide) (by decide) (by decide)]
  · rw [e6 i hi 0 (by decide), fM (28 + i) (by omega) (by omega)]
  · rw [e6 i hi (j + 1) (by omega), f4 _ (by omega), a4 i hi (j + 1) (by omega)]; rfl
  · rw [f4 _ (by omega)]; exact a2.2.2.2.2.2 i hi
theorem q_back {M : Nat → Nat → Int32} {x : mS} {n t ru s : Nat} {B : Nat → Nat → Int32} {N : Nat → Nat} (h : RelX M x n t ru s B N) {c : Nat} (hc : M 11 2 = nI c) (hc6 : c ≤ 6) {r r' : Int32} {M' : Nat → Nat → Int32} {x' : mS}
    (h1 : if M 11 4 = 0 then r = -3 ∧ M' = M else (r = nI c ∧ M' 0 1 = nI c ∧ M' 0 5 = M 11 3 ∧ M' 0 4 = M 0 4 ∧ (∀ j, j < 3 → M' 2 j = M 13 j) ∧ (∀ i, i < c → ∀ j, j < 5 → M' (28 + i) j = M (14 + i) j) ∧ ∀ k, k ≠ 0 → k ≠ 2 → (k < 28 ∨ 28 + c ≤ k) → M' k = M k))
    (h2 : if x.1 0 31 = -1 then r' = -3 ∧ x' = x else r' = x.1 0 31 ∧ x'.2 = x.2 ∧ (∀ j, j < 3 → x'.1 4 j = x.1 10 j) ∧ (∀ j, j < 24 → x'.1 6 j = x.1 11 j) ∧ x'.1 0 10 = x.1 0 31 ∧ x'.1 0 4 = x.1 0 32 ∧ (∀ c, c ≠ 0 → c ≠ 4 → c ≠ 6 → x'.1 c = x.1 c) ∧ (∀ j, j ≠ 10 → j ≠ 4 → x'.1 0 j = x.1 0 j)) : r = r' ∧ Rel M' x' := by
  obtain ⟨c', hc', ec, k⟩ := h.2.2.2.2.2.2.2
  have : c' = c := (nI_eq (by omega) (by omega)).mp (ec.symm.trans hc)
  subst this
  rcases k with ⟨k1, k2⟩ | ⟨k1, k2, k3, ⟨rk, k4, k5, k6⟩, k7, k8, k9⟩
  · rw [if_pos k1] at h1
    rw [if_pos k2] at h2
    obtain ⟨e1, rfl⟩ := h1
    obtain ⟨f1, rfl⟩ := h2
    exact ⟨by rw [e1, f1], n, t, ru, s, B, N, h⟩
  · rw [if_neg k1] at h1
    rw [if_neg (by rw [k3]; exact nI_no1 (by omega))] at h2
    obtain ⟨e1, e2, e3, e4, e5, e6, e7⟩ := h1
    obtain ⟨f1, f2, f3, f4, f5, f6, f7, f8⟩ := h2
    obtain ⟨a1, a2, a3, a4, a5, a6, a7, a8⟩ := h
    have hn6 := a2.1.2
    have hw : (∀ j, j < 3 → M' 2 j = x'.1 4 j) := fun j hj => by rw [e5 j hj, f3 j hj]; exact k7 j hj
    have hwk : wkR x' := by unfold wkR; rw [f3 0 (by decide), f3 1 (by decide)]; exact k8
    refine ⟨by rw [e1, f1, k3], c', t, rk, s, B, N, ⟨⟨e2, hc'⟩, by rw [e4]; exact a1.2.1, ⟨by rw [e3]; exact k5, k4⟩, by rw [hw 0 (by decide), hw 1 (by decide)]; exact hwk, fun j hj => txR_c (a1.2.2.2.2 j hj) (e7 _ (by omega) (by omega) (by omega)) (e7 _ (by omega) (by omega) (by omega))⟩, ⟨⟨by rw [f5]; exact k3, hc'⟩, by rw [f8 3 (by decide) (by decide)]; exact a2.2.1, ⟨by rw [f6]; exact k6, k4⟩, hwk, fun j hj => tgM_h (a2.2.2.2.2.1 j hj) (f7 1 (by decide) (by decide) (by decide)) (f7 2 (by decide) (by decide) (by decide)), fun i hi => by rw [f4 _ (by omega)]; exact (k9 i hi).2.2⟩, hw, fun i hi j hj => ?_, fun i hi => by rw [f7 5 (by decide) (by decide) (by decide)]; exact a5 i (by omega), ⟨by rw [e7 5 (by decide) (by decide) (by omega)]; exact a6.1, by rw [f8 6 (by decide) (by decide)]; exact a6.2.1, a6.2.2.1, fun i hi => by rw [e7 6 (by decide) (by decide) (by omega), f7 3 (by decide) (by decide) (by decide)]; exact a6.2.2.2 i hi⟩, fun i hi => shR_c (a7 i hi) (e7 _ (by omega) (by omega) (by omega)) (e7 _ (by omega) (by omega) (by omega)) (fun k _ _ => f7 k (by omega) (by omega) (by omega)), c', hc', by rw [e7 11 (by decide) (by decide) (by omega)]; exact ec, Or.inr ⟨by rw [e7 11 (by decide) (by decide) (by omega)]; exact k1, Nat.le_refl _, by rw [f8 31 (by decide) (by decide)]; exact k3, ⟨rk, k4, by rw [e7 11 (by decide) (by decide) (by omega)]; exact k5, by rw [f8 32 (by decide) (by decide)]; exact k6⟩, fun j hj => by rw [e7 13 (by decide) (by decide) (by omega), f7 10 (by decide) (by decide) (by decide)]; exact k7 j hj, by rw [f7 10 (by decide) (by decide) (by decide)]; exact k8, fun i hi => ⟨?_, fun j hj => ?_, ?_⟩⟩⟩
    · rw [e6 i hi j hj]
      show _ = (if j = 0 then x'.1 5 i else x'.1 6 (4 * i + (j - 1)))
      by_cases h0 : j = 0
      · subst h0
        rw [if_pos rfl, (k9 i hi).1, f7 5 (by decide) (by decide) (by decide)]
        exact a4 i (by omega) 0 (by decide)
      · rw [if_neg h0, f4 _ (by omega), ← (k9 i hi).2.1 (j - 1) (by omega), show j - 1 + 1 = j by omega]
    · rw [e7 (14 + i) (by omega) (by omega) (by omega), e6 i hi 0 (by decide)]
    · rw [e7 (14 + i) (by omega) (by omega) (by omega), f7 11 (by decide) (by decide) (by decide)]; exact (k9 i hi).2.1 j hj
    · rw [f7 11 (by decide) (by decide) (by decide)]; exact (k9 i hi).2.2

