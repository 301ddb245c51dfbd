/-! THE RELATION of the class's state and the reference's -/
def shR (M : Nat → Nat → Int32) (x : mS) (i : Nat) : Prop := ∃ sz : Nat, sz ≤ 40 ∧ M (52 + 2 * i) 2 = nI sz ∧ ((M (52 + 2 * i) 1 = -1 ∧ x.1 12 i = 0) ∨ (M (52 + 2 * i) 1 = x.1 13 i ∧ ¬ M (52 + 2 * i) 1 = -1 ∧ ¬ x.1 12 i = 0 ∧ x.1 14 i = nI sz ∧ ∀ j, j < sz → M (52 + 2 * i + 1) j = x.1 15 (40 * i + j)))
def imR (M : Nat → Nat → Int32) (x : mS) (n t : Nat) : Prop := ∃ c : Nat, c ≤ 6 ∧ M 11 2 = nI c ∧ ((M 11 4 = 0 ∧ x.1 0 31 = -1) ∨ (¬ M 11 4 = 0 ∧ c ≤ n ∧ x.1 0 31 = nI c ∧ (∃ rk, rk < t ∧ M 11 3 = nI rk ∧ x.1 0 32 = nI rk) ∧ (∀ j, j < 3 → M 13 j = x.1 10 j) ∧ ((0 ≤ x.1 10 0 ∧ x.1 10 0 ≤ 19) ∧ 0 ≤ x.1 10 1 ∧ x.1 10 1 ≤ 19) ∧ ∀ i, i < c → M (14 + i) 0 = M (28 + i) 0 ∧ (∀ j, j < 4 → M (14 + i) (j + 1) = x.1 11 (4 * i + j)) ∧ 0 ≤ x.1 11 (4 * i + 1) ∧ x.1 11 (4 * i + 1) ≤ 19))
def RelX (M : Nat → Nat → Int32) (x : mS) (n t ru s : Nat) (B : Nat → Nat → Int32) (N : Nat → Nat) : Prop :=
  inX M n t ru (fun j => tM B N j) ∧ inM x n t ru B N ∧ (∀ j, j < 3 → M 2 j = x.1 4 j) ∧ (∀ i, i < n → ∀ j, j < 5 → M (28 + i) j = gV x i j) ∧ (∀ i, i < n → 0 ≤ x.1 5 i ∧ x.1 5 i < 6) ∧ (M 5 1 = nI s ∧ x.1 0 6 = nI s ∧ s ≤ 160 ∧ ∀ i, i < s → M 6 i = x.1 3 i ∧ 0 ≤ x.1 3 i) ∧ (∀ i, i < 4 → shR M x i) ∧ imR M x n t
def Rel (M : Nat → Nat → Int32) (x : mS) : Prop := ∃ (n t ru s : Nat) (B : Nat → Nat → Int32) (N : Nat → Nat), RelX M x n t ru s B N
theorem shR_c {M M' : Nat → Nat → Int32} {x x' : mS} {i : Nat} (h : shR M x i) (h1 : M' (52 + 2 * i) = M (52 + 2 * i)) (h2 : M' (52 + 2 * i + 1) = M (52 + 2 * i + 1)) (h3 : ∀ k, 12 ≤ k → k ≤ 15 → x'.1 k = x.1 k) : shR M' x' i := by
  unfold shR at h ⊢
  rw [h1, h2, h3 12 (by decide) (by decide), h3 13 (by decide) (by decide), h3 14 (by decide) (by decide), h3 15 (by decide) (by decide)]; exact h
theorem imR_c {M M' : Nat → Nat → Int32} {x x' : mS} {n t n' t' : Nat} (h : imR M x n t) (hn : n ≤ n') (ht : t ≤ t') (h1 : M' 11 = M 11) (h2 : M' 13 = M 13) (h3 : ∀ i, i < 6 → M' (14 + i) = M (14 + i)) (h4 : ∀ i, i < n → M' (28 + i) 0 = M (28 + i) 0) (h5 : x'.1 0 31 = x.1 0 31) (h6 : x'.1 0 32 = x.1 0 32) (h7 : x'.1 10 = x.1 10) (h8 : x'.1 11 = x.1 11) : imR M' x' n' t' := by
  obtain ⟨c, hc, e, k⟩ := h
  refine ⟨c, hc, by rw [h1]; exact e, ?_⟩
  rcases k with k | ⟨k1, k2, k3, ⟨rk, k4, k5, k6⟩, k7, k8, k9⟩
  · exact Or.inl ⟨by rw [h1]; exact k.1, by rw [h5]; exact k.2⟩
  · refine Or.inr ⟨by rw [h1]; exact k1, Nat.le_trans k2 hn, by rw [h5]; exact k3, ⟨rk, by omega, by rw [h1]; exact k5, by rw [h6]; exact k6⟩, fun j hj => by rw [h2, h7]; exact k7 j hj, by rw [h7]; exact k8, fun i hi => ?_⟩
    have q := k9 i hi
    exact ⟨by rw [h3 i (by omega), h4 i (by omega)]; exact q.1, fun j hj => by rw [h3 i (by omega), h8]; exact q.2.1 j hj, by rw [h8]; exact q.2.2⟩
theorem inM_c {x z : mS} {m t ru : Nat} {B : Nat → Nat → Int32} {N : Nat → Nat} (hX : inM x m t ru B N) (h0 : z.1 0 10 = x.1 0 10 ∧ z.1 0 3 = x.1 0 3 ∧ z.1 0 4 = x.1 0 4) (h1 : z.1 1 = x.1 1) (h2 : z.1 2 = x.1 2) (h4 : z.1 4 = x.1 4) (h6 : z.1 6 = x.1 6) : inM z m t ru B N := by
  obtain ⟨⟨a1, a2⟩, a3, a4, a5, a6, a7⟩ := hX
  exact ⟨⟨by rw [h0.1]; exact a1, a2⟩, by rw [h0.2.1]; exact a3, by rw [h0.2.2]; exact a4, by unfold wkR; rw [h4]; exact a5, fun j hj => tgM_h (a6 j hj) h1 h2, fun i hi => by rw [h6]; exact a7 i hi⟩
theorem mKw_k {x z : mS} (h : mK x z) : mKw x z := ⟨fun k a b c _ => h.1 k a b c, h.2⟩
/-- nothing is new that either side tells -/
theorem Rel_ask {M M' : Nat → Nat → Int32} {x x' : mS} {n t ru s : Nat} {B : Nat → Nat → Int32} {N : Nat → Nat} (h : RelX M x n t ru s B N) (hM : fkX M M') (hx : mKw x x') : RelX M' x' n t ru s B N := by
  obtain ⟨a1, a2, a3, a4, a5, a6, a7, a8⟩ := h
  have fM : ∀ k, (k < 21 ∨ 28 ≤ k) → M' k = M k := fun k hk => hM k (by unfold scX; omega)
  have fx : ∀ k, k ≠ 0 → k ≠ 7 → k ≠ 8 → k ≠ 9 → x'.1 k = x.1 k := hx.1
  have f0 := hx.2
  refine ⟨fkX_in a1 hM, inM_c a2 ⟨f0 10 (by decide), f0 3 (by decide), f0 4 (by decide)⟩ (fx 1 (by decide) (by decide) (by decide) (by decide)) (fx 2 (by decide) (by decide) (by decide) (by decide)) (fx 4 (by decide) (by decide) (by decide) (by decide)) (fx 6 (by decide) (by decide) (by decide) (by decide)), fun j hj => ?_, fun i hi j hj => ?_, fun i hi => ?_, ⟨?_, ?_, a6.2.2.1, fun i hi => ?_⟩, fun i hi => ?_, ?_⟩
  · rw [fM 2 (by decide), fx 4 (by decide) (by decide) (by decide) (by decide)]; exact a3 j hj
  · rw [fM (28 + i) (by omega)]
    have e : gV x' i = gV x i := by
      show (fun j => if j = 0 then x'.1 5 i else x'.1 6 (4 * i + (j - 1))) = _
      rw [fx 5 (by decide) (by decide) (by decide) (by decide), fx 6 (by decide) (by decide) (by decide) (by decide)]
    rw [e]; exact a4 i hi j hj
  · rw [fx 5 (by decide) (by decide) (by decide) (by decide)]; exact a5 i hi
  · rw [fM 5 (by decide)]; exact a6.1
  · rw [f0 6 (by decide)]; exact a6.2.1
  · rw [fM 6 (by decide), fx 3 (by decide) (by decide) (by decide) (by decide)]; exact a6.2.2.2 i hi
  · exact shR_c (a7 i hi) (fM _ (by omega)) (fM _ (by omega)) (fun k h1 h2 => fx k (by omega) (by omega) (by omega) (by omega))
  · exact imR_c a8 (Nat.le_refl _) (Nat.le_refl _) (fM 11 (by decide)) (fM 13 (by decide)) (fun i hi => fM _ (by omega)) (fun i hi => by rw [fM (28 + i) (by omega)]) (f0 31 (by decide)) (f0 32 (by decide)) (fx 10 (by decide) (by decide) (by decide) (by decide)) (fx 11 (by decide) (by decide) (by decide) (by decide))
-- what both sides' words share
theorem daS_c {T : Nat → List Int32} {r r' : Nat → Int32} {f b s : Int32} {d : Nat} {w : Int32} (h : ∀ i, i < 5 → r i = r' i) : daS T r f b s d w = daS T r' f b s d w := by
  unfold daS; rw [whS_c h, lkS_c h, miS_c h]
theorem hgV_c {T : Nat → List Int32} {r r' : Nat → Int32} {f b s : Int32} (h : ∀ i, i < 5 → r i = r' i) : hgV T r f b s = hgV T r' f b s := by
  funext k
  unfold hgV
  rw [lkS_c (r' := hgR r' k) (fun i hi => by unfold hgR; split; · rfl
                                             · split; · rfl
                                               · exact h i hi)]
theorem wkV_c {T : Nat → List Int32} {r r' : Nat → Int32} {f i : Nat} (h : ∀ i, i < 5 → r i = r' i) : wkV T r f i = wkV T r' f i := by unfold wkV; rw [lkS_c h]
theorem wkT_c {T : Nat → List Int32} {r r' : Nat → Int32} {f i : Nat} {st : Int64 × Int64 × Int32} (h : ∀ i, i < 5 → r i = r' i) : wkT T r f i st = wkT T r' f i st := by unfold wkT wkW; rw [wkV_c h]
theorem wkI_c {T : Nat → List Int32} {r r' : Nat → Int32} {f : Nat} {st : Int64 × Int64 × Int32} (h : ∀ i, i < 5 → r i = r' i) : ∀ n, wkI T r f st n = wkI T r' f st n
  | 0 => rfl
  | n + 1 => by rw [wkI, wkI, wkI_c h n, wkT_c h]
theorem wkO_c {T : Nat → List Int32} {r r' : Nat → Int32} (h : ∀ i, i < 5 → r i = r' i) : ∀ n, wkO T r n = wkO T r' n
  | 0 => rfl
  | n + 1 => by rw [wkO, wkO, wkO_c h n, wkI_c h]
theorem fiS_c {v v' : Nat → Int64} : ∀ n, (∀ i, i < n → v i = v' i) → fiS v n = fiS v' n
  | 0, _ => rfl
  | n + 1, h => by rw [fiS, fiS, fiS_c n (fun i hi => h i (by omega)), h n (by omega)]
theorem osS_c {it it' wh wh' : Nat → Int32} : ∀ k d, (∀ e, d ≤ e → e < d + k → it e = it' e ∧ wh e = wh' e) → osS it wh k d = osS it' wh' k d
  | 0, _, _ => rfl
  | k + 1, d, h => by
    rw [osS, osS, (h d (by omega) (by omega)).1, (h d (by omega) (by omega)).2, osS_c k (d + 1) (fun e h1 h2 => h e (by omega) (by omega))]
theorem tlS_c {u u' : Nat → Int32} : ∀ n, (∀ i, i < n → u i = u' i) → tlS u n = tlS u' n
  | 0, _ => rfl
  | n + 1, h => by rw [tlS, tlS, h n (by omega), tlS_c n (fun i hi => h i (by omega))]
theorem chR_c {r r' : Nat → Int32} {w : Int32} {v : Nat} (h : ∀ i, i < 5 → r i = r' i) : ∀ i, i < 5 → chR r w v i = chR r' w v i := fun i hi => by
  unfold chR; split
  · rfl
  · exact h i hi
theorem tdS_c {u u' r r' : Nat → Int32} {w : Int32} (hu : ∀ j, j < 3 → u j = u' j) (h : ∀ i, i < 5 → r i = r' i) : tdS u r w = tdS u' r' w := by
  unfold tdS; rw [hu 0 (by decide), hu 1 (by decide), hu 2 (by decide), h 0 (by decide), h 1 (by decide), h 2 (by decide), h 3 (by decide), h 4 (by decide), laS_c h]
theorem tdS_w {u u' r r' : Nat → Int32} {w : Int32} (hw : w ≤ 2) (hu : ∀ j, j < 3 → u j = u' j) : tdS u r w = tdS u' r' w := by
  unfold tdS; rw [hu 0 (by decide), hu 1 (by decide), hu 2 (by decide)]
  by_cases h0 : w = 0
  · rw [if_pos h0, if_pos h0]
  · rw [if_neg h0, if_neg h0]
    by_cases h1 : w = 1
    · rw [if_pos h1, if_pos h1]
    · rw [if_neg h1, if_neg h1, if_pos hw, if_pos hw]

