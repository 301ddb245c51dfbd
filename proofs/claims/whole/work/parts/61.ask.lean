/-! WHAT IS ASKED is answered alike -/
theorem Rx_e {M : Nat → Nat → Int32} {x : mS} {n t ru s : Nat} {B : Nat → Nat → Int32} {N : Nat → Nat} (h : RelX M x n t ru s B N) : M 0 1 = x.1 0 10 ∧ M 2 0 = x.1 4 0 ∧ M 2 1 = x.1 4 1 ∧ M 2 2 = x.1 4 2 := ⟨h.1.1.1.trans h.2.1.1.1.symm, h.2.2.1 0 (by decide), h.2.2.1 1 (by decide), h.2.2.1 2 (by decide)⟩
theorem Rx_i {M : Nat → Nat → Int32} {x : mS} {n t ru s : Nat} {B : Nat → Nat → Int32} {N : Nat → Nat} (h : RelX M x n t ru s B N) {p : Int32} (hp : 0 ≤ p ∧ p < x.1 0 10) : p.toNatClampNeg < n := (gl_of h.2.1.1.1 h.2.1.1.2 hp).1
theorem Rx_g {M : Nat → Nat → Int32} {x : mS} {n t ru s : Nat} {B : Nat → Nat → Int32} {N : Nat → Nat} (h : RelX M x n t ru s B N) {p : Int32} (hp : 0 ≤ p ∧ p < x.1 0 10) : ∀ j, j < 5 → M (28 + p.toNatClampNeg) j = gV x p.toNatClampNeg j := h.2.2.2.1 _ (Rx_i h hp)
theorem Rx_s {M : Nat → Nat → Int32} {x : mS} {n t ru s : Nat} {B : Nat → Nat → Int32} {N : Nat → Nat} (h : RelX M x n t ru s B N) {q : Int32} (hq : 0 ≤ q ∧ q < 4) : q.toNatClampNeg < 4 ∧ shR M x q.toNatClampNeg := by
  have h4 : q.toNatClampNeg < 4 := cl_lt (m := 4) (n := 4) hq.1 hq.2 rfl
  exact ⟨h4, h.2.2.2.2.2.2.1 _ h4⟩
theorem q_day {M : Nat → Nat → Int32} {x : mS} {n t ru s : Nat} {B : Nat → Nat → Int32} {N : Nat → Nat} (h : RelX M x n t ru s B N) {p : Int32} {q : Int32} {w : Int32} {r r' : Int32} {M' : Nat → Nat → Int32} {x' : mS} (h1 : r = (if (0 ≤ p ∧ p < M 0 1) ∧ (0 ≤ q ∧ q < 30) ∧ (0 ≤ w ∧ w < 3) then daS (tM B N ru) (M (28 + p.toNatClampNeg)) (M 2 0) (M 2 1) (M 2 2) q.toNatClampNeg w else -2) ∧ fkX M M') (h2 : r' = (if (0 ≤ p ∧ p < x.1 0 10) ∧ (0 ≤ q ∧ q < 30) ∧ (0 ≤ w ∧ w < 3) then daS (tM B N ru) (gV x p.toNatClampNeg) (x.1 4 0) (x.1 4 1) (x.1 4 2) q.toNatClampNeg w else -2) ∧ mK x x') : r = r' ∧ Rel M' x' := by
  obtain ⟨e1, e2⟩ := h1
  obtain ⟨f1, f2⟩ := h2
  obtain ⟨k1, k2, k3, k4⟩ := Rx_e h
  refine ⟨?_, n, t, ru, s, B, N, Rel_ask h e2 (mKw_k f2)⟩
  rw [e1, f1]
  rw [k1, k2, k3, k4]
  by_cases hp : 0 ≤ p ∧ p < x.1 0 10
  · rw [daS_c (Rx_g h hp)]
  · rw [if_neg (fun q => hp q.1), if_neg (fun q => hp q.1)]
theorem q_found {M : Nat → Nat → Int32} {x : mS} {n t ru s : Nat} {B : Nat → Nat → Int32} {N : Nat → Nat} (h : RelX M x n t ru s B N) {p : Int32} {q : Int32} {w : Int32} {r r' : Int64} {M' : Nat → Nat → Int32} {x' : mS} (h1 : r = (if (0 ≤ p ∧ p < M 0 1) ∧ (0 ≤ q ∧ q < 9) ∧ (0 ≤ w ∧ w < 2) then fdS (lkS (tM B N ru) (M (28 + p.toNatClampNeg)) (M 2 0) (M 2 0) (M 2 1) (M 2 2)) q.toNatClampNeg w else -4611686018427387904) ∧ fkX M M') (h2 : r' = (if (0 ≤ p ∧ p < x.1 0 10) ∧ (0 ≤ q ∧ q < 9) ∧ (0 ≤ w ∧ w < 2) then fdS (lkS (tM B N ru) (gV x p.toNatClampNeg) (x.1 4 0) (x.1 4 0) (x.1 4 1) (x.1 4 2)) q.toNatClampNeg w else -4611686018427387904) ∧ mK x x') : r = r' ∧ Rel M' x' := by
  obtain ⟨e1, e2⟩ := h1
  obtain ⟨f1, f2⟩ := h2
  obtain ⟨k1, k2, k3, k4⟩ := Rx_e h
  refine ⟨?_, n, t, ru, s, B, N, Rel_ask h e2 (mKw_k f2)⟩
  rw [e1, f1]
  rw [k1, k2, k3, k4]
  by_cases hp : 0 ≤ p ∧ p < x.1 0 10
  · rw [lkS_c (Rx_g h hp)]
  · rw [if_neg (fun q => hp q.1), if_neg (fun q => hp q.1)]
theorem q_parts {M : Nat → Nat → Int32} {x : mS} {n t ru s : Nat} {B : Nat → Nat → Int32} {N : Nat → Nat} (h : RelX M x n t ru s B N) {p : Int32} {q : Int32} {r r' : Int64} {M' : Nat → Nat → Int32} {x' : mS} (h1 : r = (if (0 ≤ p ∧ p < M 0 1) ∧ (0 ≤ q ∧ q < 31) then paS (lkS (tM B N ru) (M (28 + p.toNatClampNeg)) (M 2 0) (M 2 0) (M 2 1) (M 2 2)) q.toNatClampNeg else -4611686018427387904) ∧ fkX M M') (h2 : r' = (if (0 ≤ p ∧ p < x.1 0 10) ∧ (0 ≤ q ∧ q < 31) then paS (lkS (tM B N ru) (gV x p.toNatClampNeg) (x.1 4 0) (x.1 4 0) (x.1 4 1) (x.1 4 2)) q.toNatClampNeg else -4611686018427387904) ∧ mK x x') : r = r' ∧ Rel M' x' := by
  obtain ⟨e1, e2⟩ := h1
  obtain ⟨f1, f2⟩ := h2
  obtain ⟨k1, k2, k3, k4⟩ := Rx_e h
  refine ⟨?_, n, t, ru, s, B, N, Rel_ask h e2 (mKw_k f2)⟩
  rw [e1, f1]
  rw [k1, k2, k3, k4]
  by_cases hp : 0 ≤ p ∧ p < x.1 0 10
  · rw [lkS_c (Rx_g h hp)]
  · rw [if_neg (fun q => hp q.1), if_neg (fun q => hp q.1)]
theorem q_waiting {M : Nat → Nat → Int32} {x : mS} {n t ru s : Nat} {B : Nat → Nat → Int32} {N : Nat → Nat} (h : RelX M x n t ru s B N) {p : Int32} {q : Int32} {r r' : Int64} {M' : Nat → Nat → Int32} {x' : mS} (h1 : r = (if (0 ≤ p ∧ p < M 0 1) ∧ (0 ≤ q ∧ q < 31) then wtS (lkS (tM B N ru) (M (28 + p.toNatClampNeg)) (M 2 0) (M 2 0) (M 2 1) (M 2 2)) (miS (tM B N ru) (M (28 + p.toNatClampNeg)) (M 2 0)) q.toNatClampNeg else -4611686018427387904) ∧ fkX M M') (h2 : r' = (if (0 ≤ p ∧ p < x.1 0 10) ∧ (0 ≤ q ∧ q < 31) then wtS (lkS (tM B N ru) (gV x p.toNatClampNeg) (x.1 4 0) (x.1 4 0) (x.1 4 1) (x.1 4 2)) (miS (tM B N ru) (gV x p.toNatClampNeg) (x.1 4 0)) q.toNatClampNeg else -4611686018427387904) ∧ mK x x') : r = r' ∧ Rel M' x' := by
  obtain ⟨e1, e2⟩ := h1
  obtain ⟨f1, f2⟩ := h2
  obtain ⟨k1, k2, k3, k4⟩ := Rx_e h
  refine ⟨?_, n, t, ru, s, B, N, Rel_ask h e2 (mKw_k f2)⟩
  rw [e1, f1]
  rw [k1, k2, k3, k4]
  by_cases hp : 0 ≤ p ∧ p < x.1 0 10
  · rw [lkS_c (Rx_g h hp), miS_c (Rx_g h hp)]
  · rw [if_neg (fun q => hp q.1), if_neg (fun q => hp q.1)]
theorem q_hang {M : Nat → Nat → Int32} {x : mS} {n t ru s : Nat} {B : Nat → Nat → Int32} {N : Nat → Nat} (h : RelX M x n t ru s B N) {p : Int32} {w : Int32} {r r' : Int64} {M' : Nat → Nat → Int32} {x' : mS} (h1 : r = (if (0 ≤ p ∧ p < M 0 1) ∧ (0 ≤ w ∧ w < 2) then (if w = 0 then (hgW (hgV (tM B N ru) (M (28 + p.toNatClampNeg)) (M 2 0) (M 2 1) (M 2 2)) 100).toInt64 else hgM (hgV (tM B N ru) (M (28 + p.toNatClampNeg)) (M 2 0) (M 2 1) (M 2 2)) 100) else -4611686018427387904) ∧ fkX M M') (h2 : r' = (if (0 ≤ p ∧ p < x.1 0 10) ∧ (0 ≤ w ∧ w < 2) then (if w = 0 then (hgW (hgV (tM B N ru) (gV x p.toNatClampNeg) (x.1 4 0) (x.1 4 1) (x.1 4 2)) 100).toInt64 else hgM (hgV (tM B N ru) (gV x p.toNatClampNeg) (x.1 4 0) (x.1 4 1) (x.1 4 2)) 100) else -4611686018427387904) ∧ mK x x') : r = r' ∧ Rel M' x' := by
  obtain ⟨e1, e2⟩ := h1
  obtain ⟨f1, f2⟩ := h2
  obtain ⟨k1, k2, k3, k4⟩ := Rx_e h
  refine ⟨?_, n, t, ru, s, B, N, Rel_ask h e2 (mKw_k f2)⟩
  rw [e1, f1]
  rw [k1, k2, k3, k4]
  by_cases hp : 0 ≤ p ∧ p < x.1 0 10
  · rw [hgV_c (Rx_g h hp)]
  · rw [if_neg (fun q => hp q.1), if_neg (fun q => hp q.1)]
theorem q_walk {M : Nat → Nat → Int32} {x : mS} {n t ru s : Nat} {B : Nat → Nat → Int32} {N : Nat → Nat} (h : RelX M x n t ru s B N) {p : Int32} {w : Int32} {r r' : Int64} {M' : Nat → Nat → Int32} {x' : mS} (h1 : r = (if (0 ≤ p ∧ p < M 0 1) ∧ (0 ≤ w ∧ w < 2) then (if w = 0 then (wkO (tM B N ru) (M (28 + p.toNatClampNeg)) 20).2.2.toInt64 else (wkO (tM B N ru) (M (28 + p.toNatClampNeg)) 20).2.1) else -4611686018427387904) ∧ fkX M M') (h2 : r' = (if (0 ≤ p ∧ p < x.1 0 10) ∧ (0 ≤ w ∧ w < 2) then (if w = 0 then (wkO (tM B N ru) (gV x p.toNatClampNeg) 20).2.2.toInt64 else (wkO (tM B N ru) (gV x p.toNatClampNeg) 20).2.1) else -4611686018427387904) ∧ mKw x x') : r = r' ∧ Rel M' x' := by
  obtain ⟨e1, e2⟩ := h1
  obtain ⟨f1, f2⟩ := h2
  obtain ⟨k1, k2, k3, k4⟩ := Rx_e h
  refine ⟨?_, n, t, ru, s, B, N, Rel_ask h e2 f2⟩
  rw [e1, f1]
  rw [k1]
  by_cases hp : 0 ≤ p ∧ p < x.1 0 10
  · rw [wkO_c (Rx_g h hp)]
  · rw [if_neg (fun q => hp q.1), if_neg (fun q => hp q.1)]
theorem q_best {M : Nat → Nat → Int32} {x : mS} {n t ru s : Nat} {B : Nat → Nat → Int32} {N : Nat → Nat} (h : RelX M x n t ru s B N) {p : Int32} {w : Int32} {r r' : Int32} {M' : Nat → Nat → Int32} {x' : mS} (h1 : r = (if (0 ≤ p ∧ p < M 0 1) ∧ (0 ≤ w ∧ w < 2) then (if w = 0 then nI (baS (lkS (tM B N ru) (M (28 + p.toNatClampNeg)) (M 2 0) (M 2 0) (M 2 1) (M 2 2)) 30) else (lkS (tM B N ru) (M (28 + p.toNatClampNeg)) (M 2 0) (M 2 0) (M 2 1) (M 2 2)) (baS (lkS (tM B N ru) (M (28 + p.toNatClampNeg)) (M 2 0) (M 2 0) (M 2 1) (M 2 2)) 30)) else -2) ∧ fkX M M') (h2 : r' = (if (0 ≤ p ∧ p < x.1 0 10) ∧ (0 ≤ w ∧ w < 2) then (if w = 0 then nI (baS (lkS (tM B N ru) (gV x p.toNatClampNeg) (x.1 4 0) (x.1 4 0) (x.1 4 1) (x.1 4 2)) 30) else (lkS (tM B N ru) (gV x p.toNatClampNeg) (x.1 4 0) (x.1 4 0) (x.1 4 1) (x.1 4 2)) (baS (lkS (tM B N ru) (gV x p.toNatClampNeg) (x.1 4 0) (x.1 4 0) (x.1 4 1) (x.1 4 2)) 30)) else -2) ∧ mK x x') : r = r' ∧ Rel M' x' := by
  obtain ⟨e1, e2⟩ := h1
  obtain ⟨f1, f2⟩ := h2
  obtain ⟨k1, k2, k3, k4⟩ := Rx_e h
  refine ⟨?_, n, t, ru, s, B, N, Rel_ask h e2 (mKw_k f2)⟩
  rw [e1, f1]
  rw [k1, k2, k3, k4]
  by_cases hp : 0 ≤ p ∧ p < x.1 0 10
  · rw [lkS_c (Rx_g h hp)]
  · rw [if_neg (fun q => hp q.1), if_neg (fun q => hp q.1)]
theorem q_giveUp {M : Nat → Nat → Int32} {x : mS} {n t ru s : Nat} {B : Nat → Nat → Int32} {N : Nat → Nat} (h : RelX M x n t ru s B N) {p : Int32} {q : Int32} {r r' : Int32} {M' : Nat → Nat → Int32} {x' : mS} (h1 : r = (if (0 ≤ p ∧ p < M 0 1) ∧ (1 ≤ q ∧ q ≤ 100) then nI (giS (lkS (tM B N ru) (M (28 + p.toNatClampNeg)) (M 2 0) (M 2 0) (M 2 1) (M 2 2)) q 30) else -2) ∧ fkX M M') (h2 : r' = (if (0 ≤ p ∧ p < x.1 0 10) ∧ (1 ≤ q ∧ q ≤ 100) then nI (giS (lkS (tM B N ru) (gV x p.toNatClampNeg) (x.1 4 0) (x.1 4 0) (x.1 4 1) (x.1 4 2)) q 30) else -2) ∧ mK x x') : r = r' ∧ Rel M' x' := by
  obtain ⟨e1, e2⟩ := h1
  obtain ⟨f1, f2⟩ := h2
  obtain ⟨k1, k2, k3, k4⟩ := Rx_e h
  refine ⟨?_, n, t, ru, s, B, N, Rel_ask h e2 (mKw_k f2)⟩
  rw [e1, f1]
  rw [k1, k2, k3, k4]
  by_cases hp : 0 ≤ p ∧ p < x.1 0 10
  · rw [lkS_c (Rx_g h hp)]
  · rw [if_neg (fun q => hp q.1), if_neg (fun q => hp q.1)]
theorem q_lot {M : Nat → Nat → Int32} {x : mS} {n t ru s : Nat} {B : Nat → Nat → Int32} {N : Nat → Nat} (h : RelX M x n t ru s B N) {p : Int32} {q : Int32} {r r' : Int32} {M' : Nat → Nat → Int32} {x' : mS} (h1 : r = (if (0 ≤ p ∧ p < M 0 1) then seS (lkS (tM B N ru) (M (28 + p.toNatClampNeg)) (M 2 0) (M 2 0) (M 2 1) (M 2 2)) q 30 0 else -2) ∧ fkX M M') (h2 : r' = (if (0 ≤ p ∧ p < x.1 0 10) then seS (lkS (tM B N ru) (gV x p.toNatClampNeg) (x.1 4 0) (x.1 4 0) (x.1 4 1) (x.1 4 2)) q 30 0 else -2) ∧ mK x x') : r = r' ∧ Rel M' x' := by
  obtain ⟨e1, e2⟩ := h1
  obtain ⟨f1, f2⟩ := h2
  obtain ⟨k1, k2, k3, k4⟩ := Rx_e h
  refine ⟨?_, n, t, ru, s, B, N, Rel_ask h e2 (mKw_k f2)⟩
  rw [e1, f1]
  rw [k1, k2, k3, k4]
  by_cases hp : 0 ≤ p ∧ p < x.1 0 10
  · rw [lkS_c (Rx_g h hp)]
  · rw [if_neg (fun q => hp q), if_neg (fun q => hp q)]
theorem q_chance {M : Nat → Nat → Int32} {x : mS} {n t ru s : Nat} {B : Nat → Nat → Int32} {N : Nat → Nat} (h : RelX M x n t ru s B N) {p : Int32} {sd : Int32} {q : Int32} {w : Int32} {r r' : Int64} {M' : Nat → Nat → Int32} {x' : mS} (h1 : r = (if (0 ≤ p ∧ p < M 0 1) ∧ (1 ≤ q ∧ q ≤ 20) ∧ (0 ≤ w ∧ w < 2) then frS (chS (lkS (tM B N ru) (M (28 + p.toNatClampNeg)) (M 2 0) (M 2 0) (M 2 1) (M 2 2)) sd q.toNatClampNeg) q.toNatClampNeg w else -4611686018427387904) ∧ fkX M M') (h2 : r' = (if (0 ≤ p ∧ p < x.1 0 10) ∧ (1 ≤ q ∧ q ≤ 20) ∧ (0 ≤ w ∧ w < 2) then frS (chS (lkS (tM B N ru) (gV x p.toNatClampNeg) (x.1 4 0) (x.1 4 0) (x.1 4 1) (x.1 4 2)) sd q.toNatClampNeg) q.toNatClampNeg w else -4611686018427387904) ∧ mK x x') : r = r' ∧ Rel M' x' := by
  obtain ⟨e1, e2⟩ := h1
  obtain ⟨f1, f2⟩ := h2
  obtain ⟨k1, k2, k3, k4⟩ := Rx_e h
  refine ⟨?_, n, t, ru, s, B, N, Rel_ask h e2 (mKw_k f2)⟩
  rw [e1, f1]
  rw [k1, k2, k3, k4]
  by_cases hp : 0 ≤ p ∧ p < x.1 0 10
  · rw [lkS_c (Rx_g h hp)]
  · rw [if_neg (fun q => hp q.1), if_neg (fun q => hp q.1)]
theorem q_first {M : Nat → Nat → Int32} {x : mS} {n t ru s : Nat} {B : Nat → Nat → Int32} {N : Nat → Nat} (h : RelX M x n t ru s B N) {q : Int32} {w : Int32} {r r' : Int64} {M' : Nat → Nat → Int32} {x' : mS} (h1 : r = (if (0 ≤ q ∧ q < 31) ∧ (0 ≤ w ∧ w < 2) then (if w = 0 then (fiS (fun i => paS (lkS (tM B N ru) (M (28 + i)) (M 2 0) (M 2 0) (M 2 1) (M 2 2)) q.toNatClampNeg) n).2.toInt64 else (fiS (fun i => paS (lkS (tM B N ru) (M (28 + i)) (M 2 0) (M 2 0) (M 2 1) (M 2 2)) q.toNatClampNeg) n).1) else -4611686018427387904) ∧ fkX M M') (h2 : r' = (if (0 ≤ q ∧ q < 31) ∧ (0 ≤ w ∧ w < 2) then (if w = 0 then (fiS (fun i => paS (lkS (tM B N ru) (gV x i) (x.1 4 0) (x.1 4 0) (x.1 4 1) (x.1 4 2)) q.toNatClampNeg) n).2.toInt64 else (fiS (fun i => paS (lkS (tM B N ru) (gV x i) (x.1 4 0) (x.1 4 0) (x.1 4 1) (x.1 4 2)) q.toNatClampNeg) n).1) else -4611686018427387904) ∧ mK x x') : r = r' ∧ Rel M' x' := by
  obtain ⟨e1, e2⟩ := h1
  obtain ⟨f1, f2⟩ := h2
  obtain ⟨k1, k2, k3, k4⟩ := Rx_e h
  refine ⟨?_, n, t, ru, s, B, N, Rel_ask h e2 (mKw_k f2)⟩
  rw [e1, f1]
  have ev : fiS (fun i => paS (lkS (tM B N ru) (M (28 + i)) (M 2 0) (M 2 0) (M 2 1) (M 2 2)) q.toNatClampNeg) n = fiS (fun i => paS (lkS (tM B N ru) (gV x i) (x.1 4 0) (x.1 4 0) (x.1 4 1) (x.1 4 2)) q.toNatClampNeg) n := fiS_c n (fun i hi => by
    show paS _ _ = paS _ _
    rw [k2, k3, k4, lkS_c (h.2.2.2.1 i hi)])
  rw [ev]
theorem q_tells {M : Nat → Nat → Int32} {x : mS} {n t ru s : Nat} {B : Nat → Nat → Int32} {N : Nat → Nat} (h : RelX M x n t ru s B N) {q : Int32} {p : Int32} {w : Int32} {r r' : Int32} {M' : Nat → Nat → Int32} {x' : mS} (h1 : r = (if (0 ≤ q ∧ q < 4) ∧ (0 ≤ p ∧ p < M 0 1) ∧ (0 ≤ w ∧ w ≤ 5) then (if M (52 + 2 * q.toNatClampNeg) 1 = -1 then -11 else if 30 < M (52 + 2 * q.toNatClampNeg) 2 then -2 else if w = 0 then (osS (M (52 + 2 * q.toNatClampNeg + 1)) (whS (tM B N ru) (M (28 + p.toNatClampNeg)) (M 2 0)) (M (52 + 2 * q.toNatClampNeg) 2).toNatClampNeg 0) else (tlS (fun v => osS (M (52 + 2 * q.toNatClampNeg + 1)) (whS (if w = 5 then tM B N v else (tM B N ru)) (chR (M (28 + p.toNatClampNeg)) w v) (M 2 0)) (M (52 + 2 * q.toNatClampNeg) 2).toNatClampNeg 0) (trS w t))) else -2) ∧ fkX M M') (h2 : r' = (if (0 ≤ q ∧ q < 4) ∧ (0 ≤ p ∧ p < x.1 0 10) ∧ (0 ≤ w ∧ w ≤ 5) then (if x.1 12 q.toNatClampNeg = 0 then -11 else if 30 < x.1 14 q.toNatClampNeg then -2 else if w = 0 then (osS (fun j => x.1 15 (40 * q.toNatClampNeg + j)) (whS (tM B N ru) (gV x p.toNatClampNeg) (x.1 4 0)) (x.1 14 q.toNatClampNeg).toNatClampNeg 0) else (tlS (fun v => osS (fun j => x.1 15 (40 * q.toNatClampNeg + j)) (whS (if w = 5 then tM B N v else (tM B N ru)) (chR (gV x p.toNatClampNeg) w v) (x.1 4 0)) (x.1 14 q.toNatClampNeg).toNatClampNeg 0) (trS w t))) else -2) ∧ mK x x') : r = r' ∧ Rel M' x' := by
  obtain ⟨e1, e2⟩ := h1
  obtain ⟨f1, f2⟩ := h2
  obtain ⟨k1, k2, k3, k4⟩ := Rx_e h
  refine ⟨?_, n, t, ru, s, B, N, Rel_ask h e2 (mKw_k f2)⟩
  rw [e1, f1]
  rw [k1]
  by_cases hq : (0 ≤ q ∧ q < 4) ∧ (0 ≤ p ∧ p < x.1 0 10) ∧ (0 ≤ w ∧ w ≤ 5)
  · rw [if_pos hq, if_pos hq]
    obtain ⟨hq4, sz, hsz, es, k⟩ := Rx_s h hq.1
    have hg := Rx_g h hq.2.1
    rcases k with ⟨g1, g2⟩ | ⟨g1, g2, g3, g4, g5⟩
    · rw [if_pos g1, if_pos g2]
    · rw [if_neg g2, if_neg g3, es, g4, nI_clamp (show sz < 2147483648 by omega), k2]
      by_cases h30 : 30 < nI sz
      · rw [if_pos h30, if_pos h30]
      · rw [if_neg h30, if_neg h30]
        by_cases h0 : w = 0
        · rw [if_pos h0, if_pos h0, whS_c hg]
          exact osS_c sz 0 (fun e _ h2 => ⟨g5 e (by omega), rfl⟩)
        · rw [if_neg h0, if_neg h0]
          refine tlS_c _ (fun v hv => ?_)
          show osS _ _ _ _ = osS _ _ _ _
          rw [whS_c (chR_c hg)]
          exact osS_c sz 0 (fun e _ h2 => ⟨g5 e (by omega), rfl⟩)
  · rw [if_neg hq, if_neg hq]
