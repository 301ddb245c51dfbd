theorem opn {d : Nat} (h : d + 1 ≤ 5) : nI (5 - (d + 1)) + 1 = nI (5 - d) := by rw [nI_1, show 5 - (d + 1) + 1 = 5 - d by omega]
/-- the reader's methods, d more may be open -/
theorem lvR (l : Launch) (g : jG) (a : Nat → Nat) (K : Nat) (hK : isTx K) (b : Nat → Int32) (n N : Nat) (hN : ∀ k, N ≤ k → tcS b n k = 14) (hN2 : N ≤ 160) : ∀ d, d ≤ 5 →
    CtR l g a yX3_readOne cX3_readOne 5 (10 + 10 * d) (100 + 200 * d) K b n N (nI (5 - d)) (onL (tcS b n) (tnS b n) d) ∧ CtR l g a yX3_readNot cX3_readNot 5 (13 + 10 * d) (190 + 200 * d) K b n N (nI (5 - d)) (ntL (tcS b n) (tnS b n) d) ∧ CtR l g a yX3_readOr cX3_readOr 5 (15 + 10 * d) (250 + 200 * d) K b n N (nI (5 - d)) (orL (tcS b n) (tnS b n) d) := by
  intro d
  induction d with
  | zero =>
    intro hd
    have hgd := lvS_gd (tc := tcS b n) (tn := tnS b n) (N := N) hN 0
    have h1 : CtR l g a yX3_readOne cX3_readOne 5 10 100 K b n N (nI (5 - 0)) (onL (tcS b n) (tnS b n) 0) := fun M p acc hrd => c_X3_readOne l g a M K hK _ 10 100 0 0 (by omega) (by omega) (by omega) (by omega) b n N hN hN2 0 0 (by omega) (by omega) 0 hd rfl noS noS (Or.inl rfl) (Or.inl rfl) p acc hrd
    have h2 : CtR l g a yX3_readTerm cX3_readTerm 5 11 130 K b n N (nI (5 - 0)) (teL (tcS b n) (tnS b n) 0) := fun M p acc hrd => c_X3_readTerm l g a M K hK _ 11 130 10 100 (by omega) (by omega) (by omega) (by omega) b n N hN hN2 _ hgd.1 h1 p acc hrd
    have h3 : CtR l g a yX3_readSum cX3_readSum 6 12 160 K b n N (nI (5 - 0)) (suL (tcS b n) (tnS b n) 0) := fun M p acc hrd => c_X3_readSum l g a M K hK _ 12 160 11 130 (by omega) (by omega) (by omega) (by omega) b n N hN hN2 _ hgd.2.2.2.2.1 h2 p acc hrd
    have h4 : CtR l g a yX3_readNot cX3_readNot 5 13 190 K b n N (nI (5 - 0)) (ntL (tcS b n) (tnS b n) 0) := fun M p acc hrd => c_X3_readNot l g a M K hK _ 13 190 12 160 (by omega) (by omega) (by omega) (by omega) b n N hN hN2 0 0 (by omega) (by omega) 0 hd rfl noS _ (Or.inl rfl) hgd.2.2.2.1 (Or.inl rfl) h3 p acc hrd
    have h5 : CtR l g a yX3_readAnd cX3_readAnd 5 14 220 K b n N (nI (5 - 0)) (anL (tcS b n) (tnS b n) 0) := fun M p acc hrd => c_X3_readAnd l g a M K hK _ 14 220 13 190 (by omega) (by omega) (by omega) (by omega) b n N hN hN2 _ hgd.2.1 h4 p acc hrd
    refine ⟨h1, h4, fun M p acc hrd => ?_⟩
    rw [orL_e]
    exact c_X3_readOr l g a M K hK _ 15 250 14 220 (by omega) (by omega) (by omega) (by omega) b n N hN hN2 _ hgd.2.2.2.2.2 h5 p acc hrd
  | succ d ih =>
    intro hd
    obtain ⟨i1, i2, i3⟩ := ih (by omega)
    have hgd := lvS_gd (tc := tcS b n) (tn := tnS b n) (N := N) hN (d + 1)
    have hgp := lvS_gd (tc := tcS b n) (tn := tnS b n) (N := N) hN d
    have h1 : CtR l g a yX3_readOne cX3_readOne 5 (10 + 10 * (d + 1)) (100 + 200 * (d + 1)) K b n N (nI (5 - (d + 1))) (onL (tcS b n) (tnS b n) (d + 1)) := fun M p acc hrd => c_X3_readOne l g a M K hK _ _ _ (10 + 10 * d) (100 + 200 * d) (by omega) (by omega) (by omega) (by omega) b n N hN hN2 (15 + 10 * d) (250 + 200 * d) (by omega) (by omega) (d + 1) hd rfl _ _ (Or.inr ⟨hgp.1, hgp.2.2.1⟩) (Or.inr (by rw [opn hd]; exact ⟨i1, i3⟩)) p acc hrd
    have h2 : CtR l g a yX3_readTerm cX3_readTerm 5 (11 + 10 * (d + 1)) (130 + 200 * (d + 1)) K b n N (nI (5 - (d + 1))) (teL (tcS b n) (tnS b n) (d + 1)) := fun M p acc hrd => c_X3_readTerm l g a M K hK _ _ _ _ _ (by omega) (by omega) (by omega) (by omega) b n N hN hN2 _ hgd.1 h1 p acc hrd
    have h3 : CtR l g a yX3_readSum cX3_readSum 6 (12 + 10 * (d + 1)) (160 + 200 * (d + 1)) K b n N (nI (5 - (d + 1))) (suL (tcS b n) (tnS b n) (d + 1)) := fun M p acc hrd => c_X3_readSum l g a M K hK _ _ _ _ _ (by omega) (by omega) (by omega) (by omega) b n N hN hN2 _ hgd.2.2.2.2.1 h2 p acc hrd
    have h4 : CtR l g a yX3_readNot cX3_readNot 5 (13 + 10 * (d + 1)) (190 + 200 * (d + 1)) K b n N (nI (5 - (d + 1))) (ntL (tcS b n) (tnS b n) (d + 1)) := fun M p acc hrd => c_X3_readNot l g a M K hK _ _ _ _ _ (by omega) (by omega) (by omega) (by omega) b n N hN hN2 (13 + 10 * d) (190 + 200 * d) (by omega) (by omega) (d + 1) hd rfl _ _ (Or.inr hgp.2.1) hgd.2.2.2.1 (Or.inr (by rw [opn hd]; exact i2)) h3 p acc hrd
    have h5 : CtR l g a yX3_readAnd cX3_readAnd 5 (14 + 10 * (d + 1)) (220 + 200 * (d + 1)) K b n N (nI (5 - (d + 1))) (anL (tcS b n) (tnS b n) (d + 1)) := fun M p acc hrd => c_X3_readAnd l g a M K hK _ _ _ _ _ (by omega) (by omega) (by omega) (by omega) b n N hN hN2 _ hgd.2.1 h4 p acc hrd
    refine ⟨h1, h4, fun M p acc hrd => ?_⟩
    rw [orL_e]
    exact c_X3_readOr l g a M K hK _ _ _ _ _ (by omega) (by omega) (by omega) (by omega) b n N hN hN2 _ hgd.2.2.2.2.2 h5 p acc hrd
-- what is kept comes behind
def exS (f : PF) : Prop := ∀ p acc, ∃ c, (f p acc).2.2 = acc ++ c
theorem lpS_ex {tc : Nat → Int32} {ok : Int32 → Bool} {f : PF} (hf : exS f) : ∀ k (r : PS), ∃ c, (lpS tc ok f k r).2.2 = r.2.2 ++ c
  | 0, r => ⟨[], by simp [lpS]⟩
  | k + 1, r => by
    rw [lpS]
    split
    · obtain ⟨c1, h1⟩ := hf (r.2.1 + 1) r.2.2
      obtain ⟨c2, h2⟩ := lpS_ex hf k ((f (r.2.1 + 1) r.2.2).1, (f (r.2.1 + 1) r.2.2).2.1, (f (r.2.1 + 1) r.2.2).2.2 ++ [-(tc r.2.1)])
      exact ⟨c1 ++ ([-(tc r.2.1)] ++ c2), by rw [h2, h1]; simp⟩
    · exact ⟨[], by simp⟩
theorem seS'_ex {tc : Nat → Int32} {ok : Int32 → Bool} {f : PF} (hf : exS f) : exS (seS' tc ok f) := fun p acc => by
  obtain ⟨c1, h1⟩ := hf p acc
  obtain ⟨c2, h2⟩ := lpS_ex (tc := tc) (ok := ok) hf 160 (f p acc)
  exact ⟨c1 ++ c2, by unfold seS'; rw [h2, h1]; simp⟩
theorem noS_ex : exS noS := fun _ acc => ⟨[], by simp [noS]⟩
theorem oneS_ex {tc tn : Nat → Int32} {d : Nat} {o e : PF} (h1 : exS o) (h2 : exS e) : exS (oneS tc tn d o e) := fun p acc => by
  obtain ⟨c1, e1⟩ := h1 (p + 1) acc
  obtain ⟨c2, e2⟩ := h2 (p + 1) acc
  unfold oneS
  split
  · exact ⟨_, rfl⟩
  split
  · exact ⟨_, rfl⟩
  split
  · exact ⟨[], by simp⟩
  split
  · split
    · exact ⟨c2, e2⟩
    · exact ⟨c2, e2⟩
  · exact ⟨c1 ++ [-16], by simp only [e1]; simp⟩
theorem ntS_ex {tc : Nat → Int32} {d : Nat} {nt sum : PF} (h1 : exS nt) (h2 : exS sum) : exS (ntS tc d nt sum) := fun p acc => by
  obtain ⟨c1, e1⟩ := h1 (p + 1) acc
  obtain ⟨c2, e2⟩ := h2 p acc
  obtain ⟨c3, e3⟩ := h2 ((sum p acc).2.1 + 1) (sum p acc).2.2
  unfold ntS
  split
  · split
    · exact ⟨[], by simp⟩
    · exact ⟨c1 ++ [-12], by simp only [e1]; simp⟩
  split
  · exact ⟨c2, e2⟩
  split
  · exact ⟨c2 ++ (c3 ++ [-(tc (sum p acc).2.1)]), by show (sum ((sum p acc).2.1 + 1) (sum p acc).2.2).2.2 ++ [-(tc (sum p acc).2.1)] = _; rw [e3, e2]; simp⟩
  · exact ⟨c2, e2⟩
theorem lvS_ex {tc tn : Nat → Int32} : ∀ d, exS (onL tc tn d) ∧ exS (ntL tc tn d) ∧ exS (orL tc tn d)
  | 0 => by
    have h1 : exS (onL tc tn 0) := oneS_ex noS_ex noS_ex
    have h4 : exS (ntL tc tn 0) := ntS_ex noS_ex (seS'_ex (seS'_ex h1))
    exact ⟨h1, h4, by rw [orL_e]; exact seS'_ex (seS'_ex h4)⟩
  | d + 1 => by
    obtain ⟨i1, i2, i3⟩ := lvS_ex (tc := tc) (tn := tn) d
    have h1 : exS (onL tc tn (d + 1)) := oneS_ex i1 i3
    have h4 : exS (ntL tc tn (d + 1)) := ntS_ex i2 (seS'_ex (seS'_ex h1))
    exact ⟨h1, h4, by rw [orL_e]; exact seS'_ex (seS'_ex h4)⟩
theorem paL_ex {tc tn : Nat → Int32} {key : Int32} : exS (paL tc tn key) := fun p acc => by
  obtain ⟨c, e⟩ := (lvS_ex (tc := tc) (tn := tn) 5).2.2 (p + 1) acc
  unfold paL
  split
  · exact ⟨[], by simp⟩
  · split
    · exact ⟨c, e⟩
    · exact ⟨c, e⟩

theorem rdX_e {M : Nat → Nat → Int32} {b : Nat → Int32} {n N K p q : Nat} {acc : List Int32} {v : Int32} (hK : isTx K) (h : rdX M b n N K p acc) : rdX (uM M (K + 2) q v) b n N K p acc := by
  have := Tx24 hK
  obtain ⟨h1, h2, h3, h4, h5, h6⟩ := h
  exact ⟨scR_c h1 (uM_ne (by omega)) (uM_ne (by omega)) (uM_ne (by omega)) (uM_ne (by omega)) (uM_ne (by omega)), by rw [uM_ne (by omega)]; exact h2, by rw [uM_ne (by omega)]; exact h3, by rw [uM_ne (by omega), uM_ne (by omega)]; exact h4, h5, h6⟩
set_option maxHeartbeats 4000000 in
set_option maxRecDepth 100000 in
theorem c_X3_readPart (l : Launch) (g : jG) (a : Nat → Nat) (M : (Nat → Nat → Int32)) (K : Nat) (hK : isTx K) (key : Int32) (q : Int32) (b : Nat → Int32) (n N : Nat) (hN : ∀ k, N ≤ k → (tcS b n) k = 14) (hN2 : N ≤ 160) (hk : ¬ key = 14) (q' : Nat) (hq : q = nI q') (hq2 : q' < 3) (p : Nat) (acc : List Int32) (hrd : rdX M b n N K p acc) : Ci l g yX3_readPart cX3_readPart 4 .boolean 100 2000 0 0 (cW g a) [.ref (a 4), .ref (a K), .int key, .int q] M (fun r z => r = bI (paL (tcS b n) (tnS b n) key p acc).1 ∧ rdX z b n N K (paL (tcS b n) (tnS b n) key p acc).2.1 (paL (tcS b n) (tnS b n) key p acc).2.2 ∧ (∀ k, k ≠ 4 → k ≠ K → k ≠ K + 1 → k ≠ K + 2 → z k = M k) ∧ (∀ j, j ≠ 2 → z K j = M K j) ∧ z (K + 2) = if (paL (tcS b n) (tnS b n) key p acc).1 = true then upd (M (K + 2)) q' (nI (paL (tcS b n) (tnS b n) key p acc).2.2.length) else M (K + 2)) := by
  refine mk_i (by decide +kernel) rfl (fun KK hKl hKg C hin hret => ?_)
  subst hKl; subst hKg
  refine j_lv (lv' := [(0, _), (1, _), (2, _), (3, _)]) rfl ?_
  have hK5 := Tx24 hK
  have hpN := hrd.2.2.2.2.2
  have hal := hrd.2.2.2.2.1
  have hlv := (lvR (kL KK) (kG KK) a K hK b n N hN hN2 5 (by omega)).2.2
  refine j_aload_n C dX3_readPart_0 rfl rfl ?_
  refine j_iload_n C dX3_readPart_1 rfl rfl ?_
  refine j_calliv C (c_X3_passed _ _ _ _ _ b n p hrd.1 hrd.2.1 hrd.2.2.1 (by omega)) dX3_readPart_2 jm_RX3_41 ⟨_, _, _, _, wO cRd, rfl, rfl⟩ ⟨by omega, by omega, by omega, by omega⟩ rfl (Nat.le_of_ble_eq_true rfl) (fun r z hz => ?_)
  rcases hz with ⟨rfl, hr_2, hz⟩ | ⟨rfl, hr_2, hz⟩
  · have hz := hz.symm; subst hz
    have hlt : p < N := by
      rcases Nat.lt_or_ge p N with h | h
      · exact h
      · exact absurd (hr_2.symm.trans (hN _ h)) hk
    have hrd4 := rdX_at hK hrd (p + 1) (by omega) (by omega)
    have hgd := (lvS_gd (tc := tcS b n) (tn := tnS b n) (N := N) hN 5).2.2.1 (p + 1) acc hlt
    refine j_if_eq (tgt := 26) C dX3_readPart_5 (by decide) (fun c => absurd c (by decide)) (fun _ => ?_)
    refine j_aload_n C dX3_readPart_8 rfl rfl ?_
    refine j_aload_n C dX3_readPart_9 rfl rfl ?_
    refine j_iconst (v := 0) C dX3_readPart_10 rfl ?_
    refine j_calliv C (hlv _ _ _ hrd4) dX3_readPart_11 jm_RX3_45 ⟨_, _, _, _, wO cRd, rfl, rfl⟩ ⟨by omega, by omega, by omega, by omega⟩ rfl (Nat.le_of_ble_eq_true rfl) (fun r_11 z_11 hz_11 => ?_)
    obtain ⟨hr, hrd9, hf_11⟩ := hz_11
    have hr := hr.symm; subst hr
    refine j_if_eq (tgt := 26) C dX3_readPart_14 (by decide) (fun c_14 => ?_) (fun c_14 => ?_)
    · skip
      refine j_iconst (v := 0) C dX3_readPart_26 rfl ?_
      refine hret _ _ _ _ dX3_readPart_27 rfl ?_
      first
        | (have e9 : (paL (tcS b n) (tnS b n) key p acc) = (false, p, acc) := by unfold paL; rw [if_pos hr_2]
           rw [e9]; exact ⟨rfl, hrd, fun _ _ _ _ _ => rfl, fun _ _ => rfl, rfl⟩)
        | (have e9 : (paL (tcS b n) (tnS b n) key p acc) = (false, (orL (tcS b n) (tnS b n) 5 (p + 1) acc).2.1, (orL (tcS b n) (tnS b n) 5 (p + 1) acc).2.2) := by
             unfold paL; rw [if_neg (fun h => h hr_2), if_neg (fun h => by rw [bI_0.mp c_14] at h; exact absurd h.1 (by decide))]
           have hF := frR_t (frR_at hK) hf_11
           rw [e9]; exact ⟨rfl, hrd9, fun k h1 h2 h3 _ => hF.1 k h1 h2 h3, hF.2, hF.1 (K + 2) (by omega) (by omega) (by omega)⟩)
        | (have e9 : (paL (tcS b n) (tnS b n) key p acc) = (false, (orL (tcS b n) (tnS b n) 5 (p + 1) acc).2.1, (orL (tcS b n) (tnS b n) 5 (p + 1) acc).2.2) := by
             unfold paL; rw [if_neg (fun h => h hr_2), if_neg (fun h => hr_20 h.2)]
           have hF := frR_t (frR_at hK) hf_11
           rw [e9]; exact ⟨rfl, hrd9, fun k h1 h2 h3 _ => hF.1 k h1 h2 h3, hF.2, hF.1 (K + 2) (by omega) (by omega) (by omega)⟩)
    · skip
      have h1t : (orL (tcS b n) (tnS b n) 5 (p + 1) acc).1 = true := by
        cases hq : (orL (tcS b n) (tnS b n) 5 (p + 1) acc).1 with
        | true => rfl
        | false => exact absurd (bI_0.mpr hq) c_14
      refine j_aload_n C dX3_readPart_17 rfl rfl ?_
      refine j_bipush (v := 59) C dX3_readPart_18 rfl ?_
      refine j_calliv C (c_X3_passed _ _ _ _ _ b n (orL (tcS b n) (tnS b n) 5 (p + 1) acc).2.1 hrd9.1 hrd9.2.1 hrd9.2.2.1 (by omega)) dX3_readPart_20 jm_RX3_41 ⟨_, _, _, _, wO cRd, rfl, rfl⟩ ⟨by omega, by omega, by omega, by omega⟩ rfl (Nat.le_of_ble_eq_true rfl) (fun r z hz => ?_)
      rcases hz with ⟨rfl, hr_20, hz⟩ | ⟨rfl, hr_20, hz⟩
      · have hz := hz.symm; subst hz
        have hlt2 : (orL (tcS b n) (tnS b n) 5 (p + 1) acc).2.1 < N := by
          rcases Nat.lt_or_ge (orL (tcS b n) (tnS b n) 5 (p + 1) acc).2.1 N with h | h
          · exact h
          · exact absurd ((hN _ h).symm.trans hr_20) (by decide)
        have hrd7 := rdX_at hK hrd9 ((orL (tcS b n) (tnS b n) 5 (p + 1) acc).2.1 + 1) (by omega) (by omega)
        refine j_if_ne (tgt := 28) C dX3_readPart_23 (by decide) (fun _ => ?_) (fun c => absurd c (by decide))
        refine j_aload_n C dX3_readPart_28 rfl rfl ?_
        refine j_iload_n C dX3_readPart_29 rfl rfl ?_
        refine j_callvv C (c_X7_endPart _ _ _ _ K hK _ q' hq hq2) dX3_readPart_30 jm_RX3_49 ⟨_, _, _, _, wO (cTx hK), rfl, rfl⟩ ⟨by omega, by omega, by omega, by omega⟩ rfl (Nat.le_of_ble_eq_true rfl) (fun z_30 hz_30 => ?_)
        have hz_30 := hz_30.symm; subst hz_30
        refine j_iconst (v := 1) C dX3_readPart_33 rfl ?_
        refine hret _ _ _ _ dX3_readPart_34 rfl ?_
        have e9 : (paL (tcS b n) (tnS b n) key p acc) = (true, (orL (tcS b n) (tnS b n) 5 (p + 1) acc).2.1 + 1, (orL (tcS b n) (tnS b n) 5 (p + 1) acc).2.2) := by
          unfold paL; rw [if_neg (fun h => h hr_2), if_pos ⟨h1t, hr_20⟩]
        have hF := frR_t (frR_t (frR_at hK) hf_11) (frR_at (M := z_11) (q := (orL (tcS b n) (tnS b n) 5 (p + 1) acc).2.1 + 1) hK)
        rw [e9]
        refine ⟨rfl, rdX_e hK hrd7, fun k h1 h2 h3 h4 => by rw [uM_ne h4]; exact hF.1 k h1 h2 h3, fun j hj => by rw [uM_ne (show K ≠ K + 2 by omega)]; exact hF.2 j hj, ?_⟩
        rw [uM_eq, hF.1 (K + 2) (by omega) (by omega) (by omega)]
        exact congrArg (upd (M (K + 2)) q') hrd7.2.2.2.1.1
      · have hz := hz.symm; subst hz
        refine j_if_ne (tgt := 28) C dX3_readPart_23 (by decide) (fun c => absurd (by decide) c) (fun _ => ?_)
        refine j_iconst (v := 0) C dX3_readPart_26 rfl ?_
        refine hret _ _ _ _ dX3_readPart_27 rfl ?_
        first
          | (have e9 : (paL (tcS b n) (tnS b n) key p acc) = (false, p, acc) := by unfold paL; rw [if_pos hr_2]
             rw [e9]; exact ⟨rfl, hrd, fun _ _ _ _ _ => rfl, fun _ _ => rfl, rfl⟩)
          | (have e9 : (paL (tcS b n) (tnS b n) key p acc) = (false, (orL (tcS b n) (tnS b n) 5 (p + 1) acc).2.1, (orL (tcS b n) (tnS b n) 5 (p + 1) acc).2.2) := by
               unfold paL; rw [if_neg (fun h => h hr_2), if_neg (fun h => by rw [bI_0.mp c_14] at h; exact absurd h.1 (by decide))]
             have hF := frR_t (frR_at hK) hf_11
             rw [e9]; exact ⟨rfl, hrd9, fun k h1 h2 h3 _ => hF.1 k h1 h2 h3, hF.2, hF.1 (K + 2) (by omega) (by omega) (by omega)⟩)
          | (have e9 : (paL (tcS b n) (tnS b n) key p acc) = (false, (orL (tcS b n) (tnS b n) 5 (p + 1) acc).2.1, (orL (tcS b n) (tnS b n) 5 (p + 1) acc).2.2) := by
               unfold paL; rw [if_neg (fun h => h hr_2), if_neg (fun h => hr_20 h.2)]
             have hF := frR_t (frR_at hK) hf_11
             rw [e9]; exact ⟨rfl, hrd9, fun k h1 h2 h3 _ => hF.1 k h1 h2 h3, hF.2, hF.1 (K + 2) (by omega) (by omega) (by omega)⟩)
  · have hz := hz.symm; subst hz
    refine j_if_eq (tgt := 26) C dX3_readPart_5 (by decide) (fun _ => ?_) (fun c => absurd (by decide) c)
    refine j_iconst (v := 0) C dX3_readPart_26 rfl ?_
    refine hret _ _ _ _ dX3_readPart_27 rfl ?_
    first
      | (have e9 : (paL (tcS b n) (tnS b n) key p acc) = (false, p, acc) := by unfold paL; rw [if_pos hr_2]
         rw [e9]; exact ⟨rfl, hrd, fun _ _ _ _ _ => rfl, fun _ _ => rfl, rfl⟩)
      | (have e9 : (paL (tcS b n) (tnS b n) key p acc) = (false, (orL (tcS b n) (tnS b n) 5 (p + 1) acc).2.1, (orL (tcS b n) (tnS b n) 5 (p + 1) acc).2.2) := by
           unfold paL; rw [if_neg (fun h => h hr_2), if_neg (fun h => by rw [bI_0.mp c_14] at h; exact absurd h.1 (by decide))]
         have hF := frR_t (frR_at hK) hf_11
         rw [e9]; exact ⟨rfl, hrd9, fun k h1 h2 h3 _ => hF.1 k h1 h2 h3, hF.2, hF.1 (K + 2) (by omega) (by omega) (by omega)⟩)
      | (have e9 : (paL (tcS b n) (tnS b n) key p acc) = (false, (orL (tcS b n) (tnS b n) 5 (p + 1) acc).2.1, (orL (tcS b n) (tnS b n) 5 (p + 1) acc).2.2) := by
           unfold paL; rw [if_neg (fun h => h hr_2), if_neg (fun h => hr_20 h.2)]
         have hF := frR_t (frR_at hK) hf_11
         rw [e9]; exact ⟨rfl, hrd9, fun k h1 h2 h3 _ => hF.1 k h1 h2 h3, hF.2, hF.1 (K + 2) (by omega) (by omega) (by omega)⟩)
theorem scR_N {M : Nat → Nat → Int32} {n : Nat} (h : scR M n) : ∃ N, N ≤ 160 ∧ ∀ k, N ≤ k → tcS (M 6) n k = 14 := by
  obtain ⟨⟨_, hn⟩, N, h1, h2, _⟩ := h
  exact ⟨N, by omega, fun k hk => by rw [tcS, if_neg (by have := psS_end h2 k hk; omega)]⟩
theorem sl_mid {row : Nat → Int32} {x y w : List Int32} (h : ∀ i, i < (x ++ y ++ w).length → row i = (x ++ y ++ w).getD i 0) : slS row x.length (x.length + y.length) = y := by
  refine slS_eq (by omega) (fun k hk => ?_)
  rw [h (x.length + k) (by simp; omega), List.getD_eq_getElem?_getD, List.getD_eq_getElem?_getD, List.append_assoc, List.getElem?_append_right (by omega), Nat.add_sub_cancel_left, List.getElem?_append_left hk]
theorem rd_tx {M : Nat → Nat → Int32} {b : Nat → Int32} {n N K p : Nat} {tc tn : Nat → Int32} (hN : N ≤ 160) (h : rdX M b n N K p (tx3 tc tn).2.2) (h0 : M (K + 2) 0 = nI (tx1 tc tn).2.2.length) (h1 : M (K + 2) 1 = nI (tx2 tc tn).2.2.length) (h2 : M (K + 2) 2 = nI (tx3 tc tn).2.2.length) : txR M K (tdT tc tn) := by
  obtain ⟨c2, e2⟩ := paL_ex (tc := tc) (tn := tn) (key := 8) (tx1 tc tn).2.1 (tx1 tc tn).2.2
  obtain ⟨c3, e3⟩ := paL_ex (tc := tc) (tn := tn) (key := 9) (tx2 tc tn).2.1 (tx2 tc tn).2.2
  have e2' : (tx2 tc tn).2.2 = (tx1 tc tn).2.2 ++ c2 := e2
  have e3' : (tx3 tc tn).2.2 = (tx2 tc tn).2.2 ++ c3 := e3
  obtain ⟨-, -, -, ⟨-, hr⟩, hl, hp⟩ := h
  rw [e2'] at e3' h1
  rw [e3'] at hr hl h2
  generalize hA : (tx1 tc tn).2.2 = A at *
  have l2 : (A ++ c2).length = A.length + c2.length := by simp
  have l3 : (A ++ c2 ++ c3).length = A.length + c2.length + c3.length := by simp [Nat.add_assoc]
  have t0 : tdT tc tn 0 = A := by rw [tdT, if_pos rfl, hA]
  have t1 : tdT tc tn 1 = c2 := by rw [tdT, if_neg (by decide), if_pos rfl, e2', hA]; simp
  have t2 : tdT tc tn 2 = c3 := by rw [tdT, if_neg (by decide), if_neg (by decide), e3', e2']; simp
  refine ⟨fun q => if q = 0 then 0 else if q = 1 then A.length else if q = 2 then A.length + c2.length else A.length + c2.length + c3.length, rfl, ?_, ?_, ?_, ?_, fun q hq => ?_⟩
  · simp
  · simp
  · simp
  · simp; omega
  · have h3 : q = 0 ∨ q = 1 ∨ q = 2 := by omega
    rcases h3 with rfl | rfl | rfl
    · refine ⟨h0, ?_⟩
      rw [t0]
      have := sl_mid (row := M (K + 1)) (x := []) (y := A) (w := c2 ++ c3) (by simpa using hr)
      simpa using this.symm
    · refine ⟨by rw [h1, l2]; rfl, ?_⟩
      rw [t1]
      exact (sl_mid (row := M (K + 1)) (x := A) (y := c2) (w := c3) hr).symm
    · refine ⟨by rw [h2, l3]; rfl, ?_⟩
      rw [t2]
      have := sl_mid (row := M (K + 1)) (x := A ++ c2) (y := c3) (w := []) (by simpa using hr)
      rw [l2] at this
      exact this.symm
set_option maxHeartbeats 4000000 in
set_option maxRecDepth 100000 in
theorem c_X3_read (l : Launch) (g : jG) (a : Nat → Nat) (M : (Nat → Nat → Int32)) (K : Nat) (hK : isTx K) (n : Nat) (hT : tpR M n) : Ci l g yX3_read cX3_read 3 .int 102 2100 0 0 (cW g a) [.ref (a 4), .ref (a K)] M (fun r z => (∀ k, k ≠ 4 → k ≠ 5 → k ≠ 7 → k ≠ 8 → k ≠ 9 → k ≠ K → k ≠ K + 1 → k ≠ K + 2 → z k = M k) ∧ (∀ j, j ≠ 5 → z 5 j = M 5 j) ∧ ((flS (tcS (M 6) n) (tnS (M 6) n) = none ∧ r = -1 ∧ txR z K (tdT (tcS (M 6) n) (tnS (M 6) n))) ∨ ∃ q, flS (tcS (M 6) n) (tnS (M 6) n) = some q ∧ r = nI (psS (M 6) n q))) := by
  refine mk_i (by decide +kernel) rfl (fun KK hKl hKg C hin hret => ?_)
  subst hKl; subst hKg
  refine j_lv (lv' := [(0, _), (1, _)]) rfl ?_
  have hK5 := Tx24 hK
  refine j_aload_n C dX3_read_0 rfl rfl ?_
  refine j_get C dX3_read_1 jf_RX3_12 (wO cRd) rfl ?_
  refine j_callvv C (c_X6_scan _ _ _ _  n hT) dX3_read_4 jm_RX3_18 ⟨_, _, _, _, wO cTp, rfl, rfl⟩ ⟨by omega, by omega, by omega, by omega⟩ rfl (Nat.le_of_ble_eq_true rfl) (fun z_4 hz_4 => ?_)
  obtain ⟨zs_4, zf_4, zj_4⟩ := hz_4
  refine j_aload_n C dX3_read_7 rfl rfl ?_
  refine j_iconst (v := 0) C dX3_read_8 rfl ?_
  refine j_put C dX3_read_9 jp_RX3_21 (wO cRd) (Nat.le_of_ble_eq_true rfl) rfl rfl (sO cRd 1 _ rfl) ?_
  refine j_aload_n C dX3_read_12 rfl rfl ?_
  refine j_callvv C (c_X7_begin _ _ _ _ K hK ) dX3_read_13 jm_RX3_25 ⟨_, _, _, _, wO (cTx hK), rfl, rfl⟩ ⟨by omega, by omega, by omega, by omega⟩ rfl (Nat.le_of_ble_eq_true rfl) (fun z_13 hz_13 => ?_)
  have hz_13 := hz_13.symm; subst hz_13
  have g6 : z_4 6 = M 6 := zf_4 6 (by decide) (by decide) (by decide) (by decide)
  obtain ⟨N, hN2, hN⟩ := scR_N zs_4
  rw [g6] at hN
  have hrd0 : rdX (uM (uM z_4 4 1 0) K 2 0) (M 6) n N K 0 [] := ⟨scR_c zs_4 (by rw [uM_ne (by omega), uM_ne (by omega)]) (by rw [uM_ne (by omega), uM_ne (by omega)]) (by rw [uM_ne (by omega), uM_ne (by omega)]) (by rw [uM_ne (by omega), uM_ne (by omega)]) (by rw [uM_ne (by omega), uM_ne (by omega)]), by rw [uM_ne (by omega), uM_ne (by omega)]; exact g6, by rw [uM_ne (by omega), uM_s]; rfl, ⟨by rw [uM_s]; rfl, fun i h => absurd h (by simp)⟩, by simp, by omega⟩
  have g0 : ∀ k, k ≠ 4 → k ≠ 5 → k ≠ 7 → k ≠ 8 → k ≠ 9 → k ≠ K → uM (uM z_4 4 1 0) K 2 0 k = M k := fun k a b c d e f => by rw [uM_ne f, uM_ne a]; exact zf_4 k b c d e
  have g5 : ∀ j, j ≠ 5 → uM (uM z_4 4 1 0) K 2 0 5 j = M 5 j := fun j a => by rw [uM_ne (by omega), uM_ne (by omega)]; exact zj_4 j a
  refine j_aload_n C dX3_read_16 rfl rfl ?_
  refine j_aload_n C dX3_read_17 rfl rfl ?_
  refine j_bipush (v := 7) C dX3_read_18 rfl ?_
  refine j_iconst (v := 0) C dX3_read_20 rfl ?_
  refine j_calliv C (c_X3_readPart _ _ a _ K hK _ _ (M 6) n N hN hN2 (by decide) 0 rfl (by decide) 0 [] hrd0) dX3_read_21 jm_RX3_30 ⟨_, _, _, _, wO cRd, rfl, rfl⟩ ⟨by omega, by omega, by omega, by omega⟩ rfl (Nat.le_of_ble_eq_true rfl) (fun r_21 z_21 hz_21 => ?_)
  obtain ⟨hr, hrd_21, hf_21, hj_21, he_21⟩ := hz_21
  have hr := hr.symm; subst hr
  refine j_if_eq (tgt := 69) C dX3_read_24 (by decide) (fun c_24 => ?_) (fun c_24 => ?_)
  · skip
    have hfl : flS (tcS (M 6) n) (tnS (M 6) n) = some (tx1 (tcS (M 6) n) (tnS (M 6) n)).2.1 := by rw [flS, if_pos (show (tx1 (tcS (M 6) n) (tnS (M 6) n)).1 = false from bI_0.mp c_24)]
    have hS9 := hrd_21
    refine j_iconst (v := 0) C dX3_read_69 rfl ?_
    refine j_istore_n (lv' := [(2, _), (0, _), (1, _)]) C dX3_read_70 rfl (by decide) rfl ?_
    refine j_iload_n C dX3_read_71 rfl rfl ?_
    refine j_if_eq (tgt := 79) C dX3_read_72 (by decide) (fun _ => ?_) (fun c => absurd (by decide) c)
    refine j_aload_n C dX3_read_79 rfl rfl ?_
    refine j_get C dX3_read_80 jf_RX3_12 (wO cRd) rfl ?_
    refine j_aload_n C dX3_read_83 rfl rfl ?_
    refine j_get C dX3_read_84 jf_RX3_21 (wO cRd) rfl ?_
    refine j_calliv C (c_X6_startAt _ _ _ _ _ n hS9.1 _ hS9.2.2.1 (by have := hS9.2.2.2.2.2; exact Nat.lt_of_le_of_lt this (by omega))) dX3_read_87 jm_RX3_38 ⟨_, _, _, _, wO cTp, rfl, rfl⟩ ⟨by omega, by omega, by omega, by omega⟩ rfl (Nat.le_of_ble_eq_true rfl) (fun r_87 z_87 hz_87 => ?_)
    obtain ⟨hr, hz⟩ := hz_87; have hz := hz.symm; subst hz; rw [hS9.2.1] at hr; have hr := hr.symm; subst hr
    refine hret _ _ _ _ dX3_read_90 rfl ?_
    refine ⟨fun k a b c d e f h i => ?_, fun j a => ?_, Or.inr ⟨_, hfl, rfl⟩⟩
    · try rw [hf_43 k a f h i]
      try rw [hf_32 k a f h i]
      rw [hf_21 k a f h i]; exact g0 k a b c d e f
    · try rw [hf_43 5 (by decide) (by omega) (by omega) (by omega)]
      try rw [hf_32 5 (by decide) (by omega) (by omega) (by omega)]
      rw [hf_21 5 (by decide) (by omega) (by omega) (by omega)]; exact g5 j a
  · skip
    have h_1 : (tx1 (tcS (M 6) n) (tnS (M 6) n)).1 = true := by
      cases hq : (tx1 (tcS (M 6) n) (tnS (M 6) n)).1 with
      | true => rfl
      | false => exact absurd (bI_0.mpr hq) c_24
    refine j_aload_n C dX3_read_27 rfl rfl ?_
    refine j_aload_n C dX3_read_28 rfl rfl ?_
    refine j_bipush (v := 8) C dX3_read_29 rfl ?_
    refine j_iconst (v := 1) C dX3_read_31 rfl ?_
    refine j_calliv C (c_X3_readPart _ _ a _ K hK _ _ (M 6) n N hN hN2 (by decide) 1 rfl (by decide) (tx1 (tcS (M 6) n) (tnS (M 6) n)).2.1 (tx1 (tcS (M 6) n) (tnS (M 6) n)).2.2 hrd_21) dX3_read_32 jm_RX3_30 ⟨_, _, _, _, wO cRd, rfl, rfl⟩ ⟨by omega, by omega, by omega, by omega⟩ rfl (Nat.le_of_ble_eq_true rfl) (fun r_32 z_32 hz_32 => ?_)
    obtain ⟨hr, hrd_32, hf_32, hj_32, he_32⟩ := hz_32
    have hr := hr.symm; subst hr
    refine j_if_eq (tgt := 69) C dX3_read_35 (by decide) (fun c_35 => ?_) (fun c_35 => ?_)
    · skip
      have hfl : flS (tcS (M 6) n) (tnS (M 6) n) = some (tx2 (tcS (M 6) n) (tnS (M 6) n)).2.1 := by rw [flS, if_neg (by rw [h_1]; decide), if_pos (show (tx2 (tcS (M 6) n) (tnS (M 6) n)).1 = false from bI_0.mp c_35)]
      have hS9 := hrd_32
      refine j_iconst (v := 0) C dX3_read_69 rfl ?_
      refine j_istore_n (lv' := [(2, _), (0, _), (1, _)]) C dX3_read_70 rfl (by decide) rfl ?_
      refine j_iload_n C dX3_read_71 rfl rfl ?_
      refine j_if_eq (tgt := 79) C dX3_read_72 (by decide) (fun _ => ?_) (fun c => absurd (by decide) c)
      refine j_aload_n C dX3_read_79 rfl rfl ?_
      refine j_get C dX3_read_80 jf_RX3_12 (wO cRd) rfl ?_
      refine j_aload_n C dX3_read_83 rfl rfl ?_
      refine j_get C dX3_read_84 jf_RX3_21 (wO cRd) rfl ?_
      refine j_calliv C (c_X6_startAt _ _ _ _ _ n hS9.1 _ hS9.2.2.1 (by have := hS9.2.2.2.2.2; exact Nat.lt_of_le_of_lt this (by omega))) dX3_read_87 jm_RX3_38 ⟨_, _, _, _, wO cTp, rfl, rfl⟩ ⟨by omega, by omega, by omega, by omega⟩ rfl (Nat.le_of_ble_eq_true rfl) (fun r_87 z_87 hz_87 => ?_)
      obtain ⟨hr, hz⟩ := hz_87; have hz := hz.symm; subst hz; rw [hS9.2.1] at hr; have hr := hr.symm; subst hr
      refine hret _ _ _ _ dX3_read_90 rfl ?_
      refine ⟨fun k a b c d e f h i => ?_, fun j a => ?_, Or.inr ⟨_, hfl, rfl⟩⟩
      · try rw [hf_43 k a f h i]
        try rw [hf_32 k a f h i]
        rw [hf_21 k a f h i]; exact g0 k a b c d e f
      · try rw [hf_43 5 (by decide) (by omega) (by omega) (by omega)]
        try rw [hf_32 5 (by decide) (by omega) (by omega) (by omega)]
        rw [hf_21 5 (by decide) (by omega) (by omega) (by omega)]; exact g5 j a
    · skip
      have h_2 : (tx2 (tcS (M 6) n) (tnS (M 6) n)).1 = true := by
        cases hq : (tx2 (tcS (M 6) n) (tnS (M 6) n)).1 with
        | true => rfl
        | false => exact absurd (bI_0.mpr hq) c_35
      refine j_aload_n C dX3_read_38 rfl rfl ?_
      refine j_aload_n C dX3_read_39 rfl rfl ?_
      refine j_bipush (v := 9) C dX3_read_40 rfl ?_
      refine j_iconst (v := 2) C dX3_read_42 rfl ?_
      refine j_calliv C (c_X3_readPart _ _ a _ K hK _ _ (M 6) n N hN hN2 (by decide) 2 rfl (by decide) (tx2 (tcS (M 6) n) (tnS (M 6) n)).2.1 (tx2 (tcS (M 6) n) (tnS (M 6) n)).2.2 hrd_32) dX3_read_43 jm_RX3_30 ⟨_, _, _, _, wO cRd, rfl, rfl⟩ ⟨by omega, by omega, by omega, by omega⟩ rfl (Nat.le_of_ble_eq_true rfl) (fun r_43 z_43 hz_43 => ?_)
      obtain ⟨hr, hrd_43, hf_43, hj_43, he_43⟩ := hz_43
      have hr := hr.symm; subst hr
      refine j_if_eq (tgt := 69) C dX3_read_46 (by decide) (fun c_46 => ?_) (fun c_46 => ?_)
      · skip
        have hfl : flS (tcS (M 6) n) (tnS (M 6) n) = some (tx3 (tcS (M 6) n) (tnS (M 6) n)).2.1 := by rw [flS, if_neg (by rw [h_1]; decide), if_neg (by rw [h_2]; decide), if_pos (show (tx3 (tcS (M 6) n) (tnS (M 6) n)).1 = false from bI_0.mp c_46)]
        have hS9 := hrd_43
        refine j_iconst (v := 0) C dX3_read_69 rfl ?_
        refine j_istore_n (lv' := [(2, _), (0, _), (1, _)]) C dX3_read_70 rfl (by decide) rfl ?_
        refine j_iload_n C dX3_read_71 rfl rfl ?_
        refine j_if_eq (tgt := 79) C dX3_read_72 (by decide) (fun _ => ?_) (fun c => absurd (by decide) c)
        refine j_aload_n C dX3_read_79 rfl rfl ?_
        refine j_get C dX3_read_80 jf_RX3_12 (wO cRd) rfl ?_
        refine j_aload_n C dX3_read_83 rfl rfl ?_
        refine j_get C dX3_read_84 jf_RX3_21 (wO cRd) rfl ?_
        refine j_calliv C (c_X6_startAt _ _ _ _ _ n hS9.1 _ hS9.2.2.1 (by have := hS9.2.2.2.2.2; exact Nat.lt_of_le_of_lt this (by omega))) dX3_read_87 jm_RX3_38 ⟨_, _, _, _, wO cTp, rfl, rfl⟩ ⟨by omega, by omega, by omega, by omega⟩ rfl (Nat.le_of_ble_eq_true rfl) (fun r_87 z_87 hz_87 => ?_)
        obtain ⟨hr, hz⟩ := hz_87; have hz := hz.symm; subst hz; rw [hS9.2.1] at hr; have hr := hr.symm; subst hr
        refine hret _ _ _ _ dX3_read_90 rfl ?_
        refine ⟨fun k a b c d e f h i => ?_, fun j a => ?_, Or.inr ⟨_, hfl, rfl⟩⟩
        · try rw [hf_43 k a f h i]
          try rw [hf_32 k a f h i]
          rw [hf_21 k a f h i]; exact g0 k a b c d e f
        · try rw [hf_43 5 (by decide) (by omega) (by omega) (by omega)]
          try rw [hf_32 5 (by decide) (by omega) (by omega) (by omega)]
          rw [hf_21 5 (by decide) (by omega) (by omega) (by omega)]; exact g5 j a
      · skip
        have h_3 : (tx3 (tcS (M 6) n) (tnS (M 6) n)).1 = true := by
          cases hq : (tx3 (tcS (M 6) n) (tnS (M 6) n)).1 with
          | true => rfl
          | false => exact absurd (bI_0.mpr hq) c_46
        refine j_aload_n C dX3_read_49 rfl rfl ?_
        refine j_get C dX3_read_50 jf_RX3_12 (wO cRd) rfl ?_
        refine j_aload_n C dX3_read_53 rfl rfl ?_
        refine j_get C dX3_read_54 jf_RX3_21 (wO cRd) rfl ?_
        refine j_calliv C (c_X6_tokenAt _ _ _ _ _ n hrd_43.1 (tx3 (tcS (M 6) n) (tnS (M 6) n)).2.1 hrd_43.2.2.1 (by have := hrd_43.2.2.2.2.2; simp only [tx3] at *; omega)) dX3_read_57 jm_RX3_34 ⟨_, _, _, _, wO cTp, rfl, rfl⟩ ⟨by omega, by omega, by omega, by omega⟩ rfl (Nat.le_of_ble_eq_true rfl) (fun r_57 z_57 hz_57 => ?_)
        obtain ⟨hr, hz⟩ := hz_57; have hz := hz.symm; subst hz; rw [hrd_43.2.1] at hr; have hr := hr.symm; subst hr
        refine j_bipush (v := 14) C dX3_read_60 rfl ?_
        refine j_icmp_ne (tgt := 69) C dX3_read_62 (by decide) (fun c_62 => ?_) (fun c_62 => ?_)
        · skip
          have hfl : flS (tcS (M 6) n) (tnS (M 6) n) = some (tx3 (tcS (M 6) n) (tnS (M 6) n)).2.1 := by rw [flS, if_neg (by rw [h_1]; decide), if_neg (by rw [h_2]; decide), if_neg (by rw [h_3]; decide), if_neg c_62]
          have hS9 := hrd_43
          refine j_iconst (v := 0) C dX3_read_69 rfl ?_
          refine j_istore_n (lv' := [(2, _), (0, _), (1, _)]) C dX3_read_70 rfl (by decide) rfl ?_
          refine j_iload_n C dX3_read_71 rfl rfl ?_
          refine j_if_eq (tgt := 79) C dX3_read_72 (by decide) (fun _ => ?_) (fun c => absurd (by decide) c)
          refine j_aload_n C dX3_read_79 rfl rfl ?_
          refine j_get C dX3_read_80 jf_RX3_12 (wO cRd) rfl ?_
          refine j_aload_n C dX3_read_83 rfl rfl ?_
          refine j_get C dX3_read_84 jf_RX3_21 (wO cRd) rfl ?_
          refine j_calliv C (c_X6_startAt _ _ _ _ _ n hS9.1 _ hS9.2.2.1 (by have := hS9.2.2.2.2.2; exact Nat.lt_of_le_of_lt this (by omega))) dX3_read_87 jm_RX3_38 ⟨_, _, _, _, wO cTp, rfl, rfl⟩ ⟨by omega, by omega, by omega, by omega⟩ rfl (Nat.le_of_ble_eq_true rfl) (fun r_87 z_87 hz_87 => ?_)
          obtain ⟨hr, hz⟩ := hz_87; have hz := hz.symm; subst hz; rw [hS9.2.1] at hr; have hr := hr.symm; subst hr
          refine hret _ _ _ _ dX3_read_90 rfl ?_
          refine ⟨fun k a b c d e f h i => ?_, fun j a => ?_, Or.inr ⟨_, hfl, rfl⟩⟩
          · try rw [hf_43 k a f h i]
            try rw [hf_32 k a f h i]
            rw [hf_21 k a f h i]; exact g0 k a b c d e f
          · try rw [hf_43 5 (by decide) (by omega) (by omega) (by omega)]
            try rw [hf_32 5 (by decide) (by omega) (by omega) (by omega)]
            rw [hf_21 5 (by decide) (by omega) (by omega) (by omega)]; exact g5 j a
        · skip
          have hfl : flS (tcS (M 6) n) (tnS (M 6) n) = none := by rw [flS, if_neg (by rw [h_1]; decide), if_neg (by rw [h_2]; decide), if_neg (by rw [h_3]; decide), if_pos c_62]
          refine j_iconst (v := 1) C dX3_read_65 rfl ?_
          refine j_goto (tgt := 70) C dX3_read_66 (by decide) ?_
          refine j_istore_n (lv' := [(2, _), (0, _), (1, _)]) C dX3_read_70 rfl (by decide) rfl ?_
          refine j_iload_n C dX3_read_71 rfl rfl ?_
          refine j_if_eq (tgt := 79) C dX3_read_72 (by decide) (fun c => absurd c (by decide)) (fun _ => ?_)
          refine j_iconst (v := -1) C dX3_read_75 rfl ?_
          refine j_goto (tgt := 90) C dX3_read_76 (by decide) ?_
          refine hret _ _ _ _ dX3_read_90 rfl ?_
          have k1 := he_21.trans (if_pos h_1)
          have k2 := he_32.trans (if_pos h_2)
          have k3 := he_43.trans (if_pos h_3)
          refine ⟨fun k a b c d e f h i => ?_, fun j a => ?_, Or.inl ⟨hfl, rfl, rd_tx (tc := (tcS (M 6) n)) (tn := (tnS (M 6) n)) hN2 hrd_43 ?_ ?_ ?_⟩⟩
          · rw [hf_43 k a f h i, hf_32 k a f h i, hf_21 k a f h i]; exact g0 k a b c d e f
          · rw [hf_43 5 (by decide) (by omega) (by omega) (by omega), hf_32 5 (by decide) (by omega) (by omega) (by omega), hf_21 5 (by decide) (by omega) (by omega) (by omega)]; exact g5 j a
          · rw [k3, upd, if_neg (by decide), k2, upd, if_neg (by decide), k1, upd, if_pos rfl]; rfl
          · rw [k3, upd, if_neg (by decide), k2, upd, if_pos rfl]; rfl
          · rw [k3, upd, if_pos rfl]; rfl
set_option maxHeartbeats 4000000 in
set_option maxRecDepth 100000 in
theorem c_X9_text (l : Launch) (g : jG) (a : Nat → Nat) (M : (Nat → Nat → Int32))  (s t : Nat) (hS : tpR M s) (ht : M 0 4 = nI t) (ht6 : t ≤ 6) : Ci l g yX9_text cX9_text 2 .int 104 2200 0 0 (cW g a) [.ref (a 0)] M (fun r z => (t = 6 ∧ r = -4 ∧ z = M) ∨ (t < 6 ∧ z 5 1 = 0 ∧ (∀ k, k ≠ 0 → k ≠ 4 → k ≠ 5 → k ≠ 7 → k ≠ 8 → k ≠ 9 → k ≠ 34 + 3 * t → k ≠ 34 + 3 * t + 1 → k ≠ 34 + 3 * t + 2 → z k = M k) ∧ (∀ j, j ≠ 4 → z 0 j = M 0 j) ∧ ((flS (tcS (M 6) s) (tnS (M 6) s) = none ∧ r = nI t ∧ z 0 4 = nI (t + 1) ∧ txR z (34 + 3 * t) (tdT (tcS (M 6) s) (tnS (M 6) s))) ∨ ∃ q, flS (tcS (M 6) s) (tnS (M 6) s) = some q ∧ r = -100 - nI (psS (M 6) s q) ∧ z 0 4 = nI t))) := by
  refine mk_i (by decide +kernel) rfl (fun KK hKl hKg C hin hret => ?_)
  subst hKl; subst hKg
  refine j_lv (lv' := [(0, _)]) rfl ?_
  have e_t : (M 0 4).toInt = t := by rw [ht]; exact nI_toInt (by omega)
  refine j_aload_n C dX9_text_0 rfl rfl ?_
  refine j_get C dX9_text_1 jf_RX9_98 (wO cX0) rfl ?_
  refine j_if_lt (tgt := 19) C dX9_text_4 (by decide) (fun c_1 => ?_) (fun c_1 => ?_)
  · skip
    exact absurd c_1 (by rw [ht]; exact nI_pos (by omega))
  · skip
    refine j_aload_n C dX9_text_7 rfl rfl ?_
    refine j_get C dX9_text_8 jf_RX9_98 (wO cX0) rfl ?_
    refine j_aload_n C dX9_text_11 rfl rfl ?_
    refine j_get C dX9_text_12 jf_RX9_24 (wO cX0) rfl ?_
    refine j_alen (v := 6) C dX9_text_15 (wR cR3) gty_3 rfl ?_
    refine j_icmp_lt (tgt := 22) C dX9_text_16 (by decide) (fun c_16 => ?_) (fun c_16 => ?_)
    · skip
      have hlt : t < 6 := by simp only [Int32.lt_iff_toInt_lt, Int32.le_iff_toInt_le, ← Int32.toInt_inj, Int32.reduceToInt, e_t] at c_16; omega
      have hKt : isTx (34 + 3 * t) := isTx_h hlt
      refine j_aload_n C dX9_text_22 rfl rfl ?_
      refine j_get C dX9_text_23 jf_RX9_31 (wO cX0) rfl ?_
      refine j_aload_n C dX9_text_26 rfl rfl ?_
      refine j_get C dX9_text_27 jf_RX9_24 (wO cX0) rfl ?_
      refine j_aload_n C dX9_text_30 rfl rfl ?_
      refine j_get C dX9_text_31 jf_RX9_98 (wO cX0) rfl ?_
      refine j_aald C (t) dX9_text_34 (wR cR3) gty_3 (ht) (hlt) (by decide) ?_
      refine j_calliv C (c_X3_read _ _ _ _ (34 + 3 * (t)) (isTx_h (hlt)) s hS) dX9_text_35 jm_RX9_91 ⟨_, _, _, _, wO cRd, rfl, rfl⟩ ⟨by omega, by omega, by omega, by omega⟩ rfl (Nat.le_of_ble_eq_true rfl) (fun r_35 z_35 hz_35 => ?_)
      obtain ⟨zf_35, zj_35, zr_35⟩ := hz_35
      refine j_istore_n (lv' := [(1, _), (0, _)]) C dX9_text_38 rfl (by decide) rfl ?_
      have hps : ∀ q, psS (M 6) s q ≤ 160 := fun q => Nat.le_trans (psS_le q) hS.2
      have z04 : z_35 0 4 = nI t := by rw [zf_35 0 (by decide) (by decide) (by decide) (by decide) (by decide) (by omega) (by omega) (by omega)]; exact ht
      refine j_aload_n C dX9_text_39 rfl rfl ?_
      refine j_get C dX9_text_40 jf_RX9_31 (wO cX0) rfl ?_
      refine j_getN C dX9_text_43 jfn_RX9_77 (wO cRd) rfl ?_
      refine j_callvv C (c_X6_empty _ _ _ _  ) dX9_text_46 jm_RX9_95 ⟨_, _, _, _, wO cTp, rfl, rfl⟩ ⟨by omega, by omega, by omega, by omega⟩ rfl (Nat.le_of_ble_eq_true rfl) (fun z_46 hz_46 => ?_)
      have hz_46 := hz_46.symm; subst hz_46
      refine j_iload_n C dX9_text_49 rfl rfl ?_
      refine j_iconst (v := -1) C dX9_text_50 rfl ?_
      refine j_icmp_eq (tgt := 59) C dX9_text_51 (by decide) (fun c_51 => ?_) (fun c_51 => ?_)
      · skip
        refine j_aload_n C dX9_text_59 rfl rfl ?_
        refine j_dup C dX9_text_60 rfl ?_
        refine j_get C dX9_text_61 jf_RX9_98 (wO cX0) rfl ?_
        refine j_iconst (v := 1) C dX9_text_64 rfl ?_
        refine j_iadd C dX9_text_65 ?_
        refine j_put C dX9_text_66 jp_RX9_98 (wO cX0) (Nat.le_of_ble_eq_true rfl) rfl rfl (sO cX0 4 _ rfl) ?_
        refine j_aload_n C dX9_text_69 rfl rfl ?_
        refine j_get C dX9_text_70 jf_RX9_98 (wO cX0) rfl ?_
        refine j_iconst (v := 1) C dX9_text_73 rfl ?_
        refine j_isub C dX9_text_74 ?_
        refine hret _ _ _ _ dX9_text_75 rfl ?_
        rcases zr_35 with ⟨h1, h2, h3⟩ | ⟨q, h1, h2⟩
        · have e9 : uM z_35 5 1 0 0 4 + 1 = nI (t + 1) := by rw [uM_ne (by decide), z04, nI_1]
          rw [e9]
          refine Or.inr ⟨hlt, by rw [uM_ne (by decide), uM_s], fun k a0 a b c d e f h i => by rw [uM_ne a0, uM_ne b]; exact zf_35 k a b c d e f h i, fun j a => by rw [uM_n a, uM_ne (by decide)]; rw [zf_35 0 (by decide) (by decide) (by decide) (by decide) (by decide) (by omega) (by omega) (by omega)], Or.inl ⟨h1, by rw [uM_s, nI_pred], uM_s, txR_c h3 (by rw [uM_ne (by omega), uM_ne (by omega)]) (by rw [uM_ne (by omega), uM_ne (by omega)])⟩⟩
        · exact absurd (h2.symm.trans c_51) (by
            intro h
            have := congrArg Int32.toInt h
            rw [nI_toInt (by have := hps q; omega)] at this
            have e : (-1 : Int32).toInt = -1 := rfl
            omega)
      · skip
        refine j_bipush (v := -100) C dX9_text_54 rfl ?_
        refine j_iload_n C dX9_text_56 rfl rfl ?_
        refine j_isub C dX9_text_57 ?_
        refine hret _ _ _ _ dX9_text_58 rfl ?_
        refine Or.inr ⟨hlt, by rw [uM_s], fun k a0 a b c d e f h i => by rw [uM_ne b]; exact zf_35 k a b c d e f h i, fun j _ => by rw [uM_ne (by decide)]; rw [zf_35 0 (by decide) (by decide) (by decide) (by decide) (by decide) (by omega) (by omega) (by omega)], Or.inr ?_⟩
        rcases zr_35 with ⟨_, h, _⟩ | ⟨q, h1, h2⟩
        · exact absurd h c_51
        · exact ⟨q, h1, by rw [h2], by rw [uM_ne (by decide)]; exact z04⟩
    · skip
      have hge : t = 6 := by simp only [Int32.lt_iff_toInt_lt, Int32.le_iff_toInt_le, ← Int32.toInt_inj, Int32.reduceToInt, e_t] at c_16; omega
      refine j_bipush (v := -4) C dX9_text_19 rfl ?_
      refine hret _ _ _ _ dX9_text_21 rfl ?_
      exact Or.inl ⟨hge, rfl, rfl⟩
