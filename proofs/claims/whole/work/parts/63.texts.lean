/-! THE TAPE, THE TEXTS, AN IMAGE -/
-- tokens hang on the bytes that are there
theorem ruP_c {P : Int32 → Prop} [DecidablePred P] {b b' : Nat → Int32} {n : Nat} (h : ∀ i, i < n → b i = b' i) : ∀ f p, ruP P b n f p = ruP P b' n f p
  | 0, _ => rfl
  | f + 1, p => by
    rw [ruP, ruP]
    by_cases hp : p < n
    · rw [h p hp, ruP_c h f (p + 1)]
    · rw [if_neg (fun k => hp k.1), if_neg (fun k => hp k.1)]
theorem enR_c {b b' : Nat → Int32} {n p : Nat} {lw hi : Int32} (h : ∀ i, i < n → b i = b' i) : enR b n lw hi p = enR b' n lw hi p := ruP_c h _ _
theorem skS_c {b b' : Nat → Int32} {n p : Nat} (h : ∀ i, i < n → b i = b' i) : skS b n p = skS b' n p := ruP_c h _ _
theorem nuS_c {b b' : Nat → Int32} {s : Nat} : ∀ k, (∀ i, s ≤ i → i < s + k → b i = b' i) → nuS b s k = nuS b' s k
  | 0, _ => rfl
  | k + 1, h => by rw [nuS, nuS, nuS_c k (fun i h1 h2 => h i h1 (by omega)), h (s + k) (by omega) (by omega)]
theorem slS_c {b b' : Nat → Int32} {s e : Nat} (h : ∀ i, s ≤ i → i < e → b i = b' i) : slS b s e = slS b' s e := by
  unfold slS
  apply List.map_congr_left
  intro i hi
  rw [List.mem_range] at hi
  exact h _ (by omega) (by omega)
theorem tkE_c {b b' : Nat → Int32} {n p : Nat} (h : ∀ i, i < n → b i = b' i) (hp : p < n) : tkE b n p = tkE b' n p := by
  unfold tkE; rw [h p hp, enR_c h, enR_c h]
theorem tkC_c {b b' : Nat → Int32} {n p : Nat} (h : ∀ i, i < n → b i = b' i) (hp : p < n) : tkC b n p = tkC b' n p := by
  have hE := (tkE_gt (b := b') hp).2
  unfold tkC
  rw [tkE_c h hp, h p hp]
  unfold woS
  rw [slS_c (b' := b') (fun i _ h2 => h i (by omega))]
theorem tkN_c {b b' : Nat → Int32} {n p : Nat} (h : ∀ i, i < n → b i = b' i) (hp : p < n) : tkN b n p = tkN b' n p := by
  have hE := tkE_gt (b := b') hp
  unfold tkN
  rw [tkE_c h hp, h p hp, nuS_c (b' := b') _ (fun i _ h2 => h i (by omega))]
theorem psS_c {b b' : Nat → Int32} {n : Nat} (h : ∀ i, i < n → b i = b' i) : ∀ k, psS b n k = psS b' n k
  | 0 => skS_c h
  | k + 1 => by
    rw [psS, psS, psS_c h k]
    by_cases hp : psS b' n k < n
    · rw [if_pos hp, if_pos hp, tkE_c h hp, skS_c h]
    · rw [if_neg hp, if_neg hp]
theorem tcS_c {b b' : Nat → Int32} {n : Nat} (h : ∀ i, i < n → b i = b' i) : tcS b n = tcS b' n := by
  funext k
  rw [tcS, tcS, psS_c h k]
  by_cases hp : psS b' n k < n
  · rw [if_pos hp, if_pos hp, tkC_c h hp]
  · rw [if_neg hp, if_neg hp]
theorem tnS_c {b b' : Nat → Int32} {n : Nat} (h : ∀ i, i < n → b i = b' i) : tnS b n = tnS b' n := by
  funext k
  rw [tnS, tnS, psS_c h k]
  by_cases hp : psS b' n k < n
  · rw [if_pos hp, if_pos hp, tkN_c h hp]
  · rw [if_neg hp, if_neg hp]
theorem q_feed {M : Nat → Nat → Int32} {x : mS} {n t ru s : Nat} {B : Nat → Nat → Int32} {N : Nat → Nat} (h : RelX M x n t ru s B N) {v r r' : Int32} {M' : Nat → Nat → Int32} {x' : mS} (h1 : if 0 ≤ v ∧ v < 256 then (if s < 160 then r = nI (s + 1) ∧ M' = uM (uM M 6 s v) 5 1 (nI (s + 1)) else r = -4 ∧ M' = M) else r = -2 ∧ M' = M) (h2 : if 0 ≤ v ∧ v < 256 then (if s < 160 then r' = nI (s + 1) ∧ x' = mU (mU x 3 s v) 0 6 (nI (s + 1)) else r' = -4 ∧ x' = x) else r' = -2 ∧ x' = x) : r = r' ∧ Rel M' x' := by
  by_cases hv : 0 ≤ v ∧ v < 256
  · rw [if_pos hv] at h1 h2
    by_cases hn : s < 160
    · rw [if_pos hn] at h1 h2
      obtain ⟨e1, rfl⟩ := h1
      obtain ⟨f1, rfl⟩ := h2
      obtain ⟨a1, a2, a3, a4, a5, a6, a7, a8⟩ := h
      have fM : ∀ k, k ≠ 5 → k ≠ 6 → uM (uM M 6 s v) 5 1 (nI (s + 1)) k = M k := fun k a b => by rw [uM_ne a, uM_ne b]
      have fx : ∀ k, k ≠ 0 → k ≠ 3 → (mU (mU x 3 s v) 0 6 (nI (s + 1))).1 k = x.1 k := fun k a b => by rw [mU_1, uM_ne a, mU_1, uM_ne b]
      have f0 : ∀ j, j ≠ 6 → (mU (mU x 3 s v) 0 6 (nI (s + 1))).1 0 j = x.1 0 j := fun j a => by rw [mU_1, uM_n a, mU_1, uM_ne (by decide)]
      refine ⟨by rw [e1, f1], n, t, ru, s + 1, B, N, inX_c a1 (fM 0 (by decide) (by decide)) (fM 2 (by decide) (by decide)) (fun k _ _ => fM k (by omega) (by omega)), inM_c a2 ⟨f0 10 (by decide), f0 3 (by decide), f0 4 (by decide)⟩ (fx 1 (by decide) (by decide)) (fx 2 (by decide) (by decide)) (fx 4 (by decide) (by decide)) (fx 6 (by decide) (by decide)), fun j hj => by rw [fM 2 (by decide) (by decide), fx 4 (by decide) (by decide)]; exact a3 j hj, fun i hi j hj => ?_, fun i hi => by rw [fx 5 (by decide) (by decide)]; exact a5 i hi, ⟨by rw [uM_s], by rw [mU_1, uM_s], by omega, fun i hi => ?_⟩, fun i hi => shR_c (a7 i hi) (fM _ (by omega) (by omega)) (fM _ (by omega) (by omega)) (fun k _ _ => fx k (by omega) (by omega)), imR_c a8 (Nat.le_refl _) (Nat.le_refl _) (fM 11 (by decide) (by decide)) (fM 13 (by decide) (by decide)) (fun i _ => fM _ (by omega) (by omega)) (fun i _ => by rw [fM (28 + i) (by omega) (by omega)]) (f0 31 (by decide)) (f0 32 (by decide)) (fx 10 (by decide) (by decide)) (fx 11 (by decide) (by decide))⟩
      · rw [fM (28 + i) (by omega) (by omega), a4 i hi j hj]
        show (if j = 0 then x.1 5 i else x.1 6 (4 * i + (j - 1))) = (if j = 0 then (mU (mU x 3 s v) 0 6 (nI (s + 1))).1 5 i else (mU (mU x 3 s v) 0 6 (nI (s + 1))).1 6 (4 * i + (j - 1)))
        rw [fx 5 (by decide) (by decide), fx 6 (by decide) (by decide)]
      · rw [uM_ne (k' := 6) (by decide), mU_1, uM_ne (k' := 3) (by decide), mU_1]
        by_cases hi2 : i = s
        · subst hi2; rw [uM_s, uM_s]; exact ⟨rfl, hv.1⟩
        · rw [uM_n hi2, uM_n hi2]; exact a6.2.2.2 i (by omega)
    · rw [if_neg hn] at h1 h2
      obtain ⟨e1, rfl⟩ := h1
      obtain ⟨f1, rfl⟩ := h2
      exact ⟨by rw [e1, f1], n, t, ru, s, B, N, h⟩
  · rw [if_neg hv] at h1 h2
    obtain ⟨e1, rfl⟩ := h1
    obtain ⟨f1, rfl⟩ := h2
    exact ⟨by rw [e1, f1], n, t, ru, s, B, N, h⟩
theorem q_force {M : Nat → Nat → Int32} {x : mS} {n t ru s : Nat} {B : Nat → Nat → Int32} {N : Nat → Nat} (h : RelX M x n t ru s B N) {v r r' : Int32} {M' : Nat → Nat → Int32} {x' : mS} (h1 : if 0 ≤ v ∧ v < M 0 4 then r = M 0 5 ∧ M' = uM M 0 5 v else r = -2 ∧ M' = M) (h2 : if 0 ≤ v ∧ v < x.1 0 3 then r' = x.1 0 4 ∧ x' = mU x 0 4 v else r' = -2 ∧ x' = x) : r = r' ∧ Rel M' x' := by
  have e4 : M 0 4 = x.1 0 3 := h.1.2.1.1.trans h.2.1.2.1.1.symm
  have e5 : M 0 5 = x.1 0 4 := h.1.2.2.1.1.trans h.2.1.2.2.1.1.symm
  rw [e4] at h1
  by_cases hv : 0 ≤ v ∧ v < x.1 0 3
  · rw [if_pos hv] at h1 h2
    obtain ⟨e1, rfl⟩ := h1
    obtain ⟨f1, rfl⟩ := h2
    obtain ⟨a1, a2, a3, a4, a5, a6, a7, a8⟩ := h
    obtain ⟨j, hj, rfl⟩ := in_of (B := t) hv a2.2.1.1 (by have := a2.2.1.2.2; omega)
    refine ⟨by rw [e1, f1, e5], n, t, j, s, B, N, ⟨by rw [uM_n (by decide)]; exact a1.1, by rw [uM_n (by decide)]; exact a1.2.1, ⟨by rw [uM_s], hj⟩, by rw [uM_ne (by decide)]; exact a1.2.2.2.1, fun i hi => txR_c (a1.2.2.2.2 i hi) (uM_ne (by omega)) (uM_ne (by omega))⟩, ⟨by unfold mnR; rw [mU_1, uM_n (by decide)]; exact a2.1, by rw [mU_1, uM_n (by decide)]; exact a2.2.1, ⟨by rw [mU_1, uM_s], hj⟩, by unfold wkR; rw [mU_1, uM_ne (by decide)]; exact a2.2.2.2.1, fun i hi => tgM_h (a2.2.2.2.2.1 i hi) (by rw [mU_1, uM_ne (by decide)]) (by rw [mU_1, uM_ne (by decide)]), fun i hi => by rw [mU_1, uM_ne (by decide)]; exact a2.2.2.2.2.2 i hi⟩, fun i hi => by rw [uM_ne (by decide), mU_1, uM_ne (by decide)]; exact a3 i hi, fun i hi k hk => ?_, fun i hi => by rw [mU_1, uM_ne (by decide)]; exact a5 i hi, ⟨by rw [uM_ne (by decide)]; exact a6.1, by rw [mU_1, uM_n (by decide)]; exact a6.2.1, a6.2.2.1, fun i hi => by rw [uM_ne (by decide), mU_1, uM_ne (by decide)]; exact a6.2.2.2 i hi⟩, fun i hi => shR_c (a7 i hi) (uM_ne (by omega)) (uM_ne (by omega)) (fun k _ _ => by rw [mU_1, uM_ne (by omega)]), imR_c a8 (Nat.le_refl _) (Nat.le_refl _) (uM_ne (by decide)) (uM_ne (by decide)) (fun i _ => uM_ne (by omega)) (fun i _ => by rw [uM_ne (by omega)]) (by rw [mU_1, uM_n (by decide)]) (by rw [mU_1, uM_n (by decide)]) (by rw [mU_1, uM_ne (by decide)]) (by rw [mU_1, uM_ne (by decide)])⟩
    rw [uM_ne (by omega), a4 i hi k hk]
    show (if k = 0 then x.1 5 i else x.1 6 (4 * i + (k - 1))) = (if k = 0 then (mU x 0 4 (nI j)).1 5 i else (mU x 0 4 (nI j)).1 6 (4 * i + (k - 1)))
    rw [mU_1, uM_ne (by decide), uM_ne (by decide)]
  · rw [if_neg hv] at h1 h2
    obtain ⟨e1, rfl⟩ := h1
    obtain ⟨f1, rfl⟩ := h2
    exact ⟨by rw [e1, f1], n, t, ru, s, B, N, h⟩
theorem q_text {M : Nat → Nat → Int32} {x : mS} {n t ru s : Nat} {B : Nat → Nat → Int32} {N : Nat → Nat} (h : RelX M x n t ru s B N) {r r' : Int32} {M' : Nat → Nat → Int32} {x' : mS}
    (h1 : (t = 6 ∧ r = -4 ∧ M' = M) ∨ (t < 6 ∧ M' 5 1 = 0 ∧ (∀ k, k ≠ 0 → k ≠ 4 → k ≠ 5 → k ≠ 7 → k ≠ 8 → k ≠ 9 → k ≠ 34 + 3 * t → k ≠ 34 + 3 * t + 1 → k ≠ 34 + 3 * t + 2 → M' k = M k) ∧ (∀ j, j ≠ 4 → M' 0 j = M 0 j) ∧ ((flS (tcS (M 6) s) (tnS (M 6) s) = none ∧ r = nI t ∧ M' 0 4 = nI (t + 1) ∧ txR M' (34 + 3 * t) (tdT (tcS (M 6) s) (tnS (M 6) s))) ∨ ∃ q, flS (tcS (M 6) s) (tnS (M 6) s) = some q ∧ r = -100 - nI (psS (M 6) s q) ∧ M' 0 4 = nI t)))
    (h2 : (t = 6 ∧ r' = -4 ∧ x' = x) ∨ (t < 6 ∧ txF x x' s t ∧ ((flS (tcS (x.1 3) s) (tnS (x.1 3) s) = none ∧ r' = nI t ∧ x'.1 0 3 = nI (t + 1)) ∨ ∃ q, flS (tcS (x.1 3) s) (tnS (x.1 3) s) = some q ∧ r' = -100 - nI (psS (x.1 3) s q) ∧ x'.1 0 3 = nI t))) : r = r' ∧ Rel M' x' := by
  rcases h1 with ⟨h6, e1, rfl⟩ | ⟨h6, g1, gF, gJ, gR⟩
  · rcases h2 with ⟨_, f1, rfl⟩ | ⟨h6', _⟩
    · exact ⟨by rw [e1, f1], n, t, ru, s, B, N, h⟩
    · omega
  · rcases h2 with ⟨h6', _⟩ | ⟨_, ⟨fK, fO, fB, fS, f6, fJ⟩, fR⟩
    · omega
    · obtain ⟨a1, a2, a3, a4, a5, a6, a7, a8⟩ := h
      have hb : ∀ i, i < s → M 6 i = x.1 3 i := fun i hi => (a6.2.2.2 i hi).1
      rw [tcS_c hb, tnS_c hb] at gR
      have hgv : ∀ i, gV x' i = gV x i := fun i => by
        show (fun j => if j = 0 then x'.1 5 i else x'.1 6 (4 * i + (j - 1))) = _
        rw [fK 5 (by decide) (by decide) (by decide), fK 6 (by decide) (by decide) (by decide)]
      have base : ∀ (t' : Nat) (B' : Nat → Nat → Int32) (N' : Nat → Nat), t ≤ t' → t' ≤ 6 → M' 0 4 = nI t' → x'.1 0 3 = nI t' → (∀ j, j < t → B' j = B j ∧ N' j = N j) → (∀ j, t ≤ j → j < t' → txR M' (34 + 3 * j) (tM B' N' j) ∧ tgM x' (B' j) (N' j) j) → RelX M' x' n t' ru 0 B' N' := by
        intro t' B' N' ht1 ht2 k1 k2 k3 k4
        refine ⟨⟨by rw [gJ 1 (by decide)]; exact a1.1, ⟨k1, by have := a1.2.1.2.1; omega, ht2⟩, ⟨by rw [gJ 5 (by decide)]; exact a1.2.2.1.1, by have := a1.2.2.1.2; omega⟩, by rw [gF 2 (by decide) (by decide) (by decide) (by decide) (by decide) (by decide) (by omega) (by omega) (by omega)]; exact a1.2.2.2.1, fun j hj => ?_⟩, ⟨by unfold mnR; rw [fJ 10 (by decide) (by decide) (by decide)]; exact a2.1, ⟨k2, by have := a1.2.1.2.1; omega, ht2⟩, ⟨by rw [fJ 4 (by decide) (by decide) (by decide)]; exact a2.2.2.1.1, by have := a1.2.2.1.2; omega⟩, by unfold wkR; rw [fK 4 (by decide) (by decide) (by decide)]; exact a2.2.2.2.1, fun j hj => ?_, fun i hi => by rw [fK 6 (by decide) (by decide) (by decide)]; exact a2.2.2.2.2.2 i hi⟩, fun j hj => by rw [gF 2 (by decide) (by decide) (by decide) (by decide) (by decide) (by decide) (by omega) (by omega) (by omega), fK 4 (by decide) (by decide) (by decide)]; exact a3 j hj, fun i hi j hj => ?_, fun i hi => by rw [fK 5 (by decide) (by decide) (by decide)]; exact a5 i hi, ⟨g1, f6, by decide, fun i hi => absurd hi (by omega)⟩, fun i hi => shR_c (a7 i hi) (gF _ (by omega) (by omega) (by omega) (by omega) (by omega) (by omega) (by omega) (by omega) (by omega)) (gF _ (by omega) (by omega) (by omega) (by omega) (by omega) (by omega) (by omega) (by omega) (by omega)) (fun k _ _ => fK k (by omega) (by omega) (by omega)), imR_c a8 (Nat.le_refl _) ht1 (gF 11 (by decide) (by decide) (by decide) (by decide) (by decide) (by decide) (by omega) (by omega) (by omega)) (gF 13 (by decide) (by decide) (by decide) (by decide) (by decide) (by decide) (by omega) (by omega) (by omega)) (fun i _ => gF _ (by omega) (by omega) (by omega) (by omega) (by omega) (by omega) (by omega) (by omega) (by omega)) (fun i hi => by have := a2.1.2; rw [gF (28 + i) (by omega) (by omega) (by omega) (by omega) (by omega) (by omega) (by omega) (by omega) (by omega)]) (fJ 31 (by decide) (by decide) (by decide)) (fJ 32 (by decide) (by decide) (by decide)) (fK 10 (by decide) (by decide) (by decide)) (fK 11 (by decide) (by decide) (by decide))⟩
        · by_cases hjt : j < t
          · have q := k3 j hjt
            show txR M' (34 + 3 * j) (tdT (tcS (B' j) (N' j)) (tnS (B' j) (N' j)))
            rw [q.1, q.2]
            exact txR_c (a1.2.2.2.2 j hjt) (gF _ (by omega) (by omega) (by omega) (by omega) (by omega) (by omega) (by omega) (by omega) (by omega)) (gF _ (by omega) (by omega) (by omega) (by omega) (by omega) (by omega) (by omega) (by omega) (by omega))
          · exact (k4 j (by omega) hj).1
        · by_cases hjt : j < t
          · have q := k3 j hjt
            rw [q.1, q.2]
            obtain ⟨b1, b2, b3, b4, b5⟩ := a2.2.2.2.2.1 j hjt
            exact ⟨b1, by rw [fS, upd, if_neg (by omega)]; exact b2, b3, fun i hi => by rw [fO _ (by omega)]; exact b4 i hi, b5⟩
          · exact (k4 j (by omega) hj).2
        · have := a2.1.2
          rw [hgv, gF (28 + i) (by omega) (by omega) (by omega) (by omega) (by omega) (by omega) (by omega) (by omega) (by omega)]
          exact a4 i hi j hj
      rcases gR with ⟨g2, g3, g4, g5⟩ | ⟨q, g2, g3, g4⟩
      · rcases fR with ⟨f2, f3, f4⟩ | ⟨q, f2, _⟩
        · refine ⟨by rw [g3, f3], n, t + 1, ru, 0, (fun j => if j = t then x.1 3 else B j), (fun j => if j = t then s else N j), base (t + 1) (fun j => if j = t then x.1 3 else B j) (fun j => if j = t then s else N j) (by omega) (by omega) g4 f4 (fun j hj => ⟨if_neg (by omega), if_neg (by omega)⟩) (fun j h7 h8 => ?_)⟩
          have hjt : j = t := by omega
          show txR M' (34 + 3 * j) (tdT (tcS (if j = t then x.1 3 else B j) (if j = t then s else N j)) (tnS (if j = t then x.1 3 else B j) (if j = t then s else N j))) ∧ tgM x' (if j = t then x.1 3 else B j) (if j = t then s else N j) j
          rw [if_pos hjt, if_pos hjt, hjt]
          exact ⟨g5, h6, by rw [fS, upd, if_pos rfl], a6.2.2.1, fun i hi => ⟨fB i hi, (a6.2.2.2 i hi).2⟩, f2⟩
        · rw [g2] at f2; exact absurd f2 (by simp)
      · rcases fR with ⟨f2, _⟩ | ⟨q', f2, f3, f4⟩
        · rw [g2] at f2; exact absurd f2 (by simp)
        · have eq : q' = q := Option.some.inj (f2.symm.trans g2)
          subst eq
          exact ⟨by rw [g3, f3, psS_c hb], n, t, ru, 0, B, N, base t B N (Nat.le_refl _) a1.2.1.2.2 g4 f4 (fun _ _ => ⟨rfl, rfl⟩) (fun j h7 h8 => absurd h8 (by omega))⟩

