theorem opn {d : Nat} (h : d + 1 ≤ 5) : nI (5 - (d + 1)) + 1 = nI (5 - d) := by rw [nI_1, show 5 - (d + 1) + 1 = 5 - d by omega]
/-- the reader's methods, d more may be open -/
theorem lvR (l : Launch) (g : jG) (a : Nat → Nat) (K : Nat) (hK : isTx K) (b : Nat → Int32) (n N : Nat) (hN : ∀ k, N ≤ k → tcS b n k = 14) (hN2 : N ≤ 160) : ∀ d, d ≤ 5 →
    CtR l g a yX3_readOne cX3_readOne 5 (10 + 10 * d) (100 + 200 * d) K b n N (nI (5 - d)) (onL (tcS b n) (tnS b n) d) ∧ CtR l g a yX3_readNot cX3_readNot 5 (13 + 10 * d) (190 + 200 * d) K b n N (nI (5 - d)) (ntL (tcS b n) (tnS b n) d) ∧ CtR l g a yX3_readOr cX3_readOr 5 (15 + 10 * d) (250 + 200 * d) K b n N (nI (5 - d)) (orL (tcS b n) (tnS b n) d) := by
  intro d
  induction d with
  | zero =>
    intro hd
    have hgd := lvS_gd (tc := tcS b n) (tn := tnS b n) (N := N) hN 0
    have h1 : CtR l g a yX3_readOne cX3_readOne 5 10 100 K b n N (nI (5 - 0)) (onL (tcS b n) (tnS b n) 0) := fun M p acc hrd => c_X3_readOne l g a M K hK _ 10 100 0 0 (by omega) (by omega) (by omega) (by omega) b n N hN hN2 0 0 (by omega) (by omega) 0 hd rfl noS noS (Or.inl rfl) (Or.inl rfl) p acc hrd
    have h2 : CtR l g a yX3_readTerm cX3_readTerm 5 11 130 K b n N (nI (5 - 0)) (teL (tcS b n) (tnS b n) 0) := fun M p acc hrd => c_X3_readTerm l g a M K hK _ 11 130 10 100 (by omega) (by omega) (by omega) (by omega) b n N hN hN2 _ hgd.1 h1 p acc hrd
    have h3 : CtR l g a yX3_readSum cX3_readSum 6 12 160 K b n N (nI (5 - 0)) (suL (tcS b n) (tnS b n) 0) := fun M p acc hrd => c_X3_readSum l g a M K hK _ 12 160 11 130 (by omega) (by omega) (by omega) (by omega) b n N hN hN2 _ hgd.2.2.2.2.1 h2 p acc hrd
    have h4 : CtR l g a yX3_readNot cX3_readNot 5 13 190 K b n N (nI (5 - 0)) (ntL (tcS b n) (tnS b n) 0) := fun M p acc hrd => c_X3_readNot l g a M K hK _ 13 190 12 160 (by omega) (by omega) (by omega) (by omega) b n N hN hN2 0 0 (by omega) (by omega) 0 hd rfl noS _ (Or.inl rfl) hgd.2.2.2.1 (Or.inl rfl) h3 p acc hrd
    have h5 : CtR l g a yX3_readAnd cX3_readAnd 5 14 220 K b n N (nI (5 - 0)) (anL (tcS b n) (tnS b n) 0) := fun M p acc hrd => c_X3_readAnd l g a M K hK _ 14 220 13 190 (by omega) (by omega) (by omega) (by omega) b n N hN hN2 _ hgd.2.1 h4 p acc hrd
    refine ⟨h1, h4, fun M p acc hrd => ?_⟩
    rw [orL_e]
    exact c_X3_readOr l g a M K hK _ 15 250 14 220 (by omega) (by omega) (by omega) (by omega) b n N hN hN2 _ hgd.2.2.2.2.2 h5 p acc hrd
  | succ d ih =>
    intro hd
    obtain ⟨i1, i2, i3⟩ := ih (by omega)
    have hgd := lvS_gd (tc := tcS b n) (tn := tnS b n) (N := N) hN (d + 1)
    have hgp := lvS_gd (tc := tcS b n) (tn := tnS b n) (N := N) hN d
    have h1 : CtR l g a yX3_readOne cX3_readOne 5 (10 + 10 * (d + 1)) (100 + 200 * (d + 1)) K b n N (nI (5 - (d + 1))) (onL (tcS b n) (tnS b n) (d + 1)) := fun M p acc hrd => c_X3_readOne l g a M K hK _ _ _ (10 + 10 * d) (100 + 200 * d) (by omega) (by omega) (by omega) (by omega) b n N hN hN2 (15 + 10 * d) (250 + 200 * d) (by omega) (by omega) (d + 1) hd rfl _ _ (Or.inr ⟨hgp.1, hgp.2.2.1⟩) (Or.inr (by rw [opn hd]; exact ⟨i1, i3⟩)) p acc hrd
    have h2 : CtR l g a yX3_readTerm cX3_readTerm 5 (11 + 10 * (d + 1)) (130 + 200 * (d + 1)) K b n N (nI (5 - (d + 1))) (teL (tcS b n) (tnS b n) (d + 1)) := fun M p acc hrd => c_X3_readTerm l g a M K hK _ _ _ _ _ (by omega) (by omega) (by omega) (by omega) b n N hN hN2 _ hgd.1 h1 p acc hrd
    have h3 : CtR l g a yX3_readSum cX3_readSum 6 (12 + 10 * (d + 1)) (160 + 200 * (d + 1)) K b n N (nI (5 - (d + 1))) (suL (tcS b n) (tnS b n) (d + 1)) := fun M p acc hrd => c_X3_readSum l g a M K hK _ _ _ _ _ (by omega) (by omega) (by omega) (by omega) b n N hN hN2 _ hgd.2.2.2.2.1 h2 p acc hrd
    have h4 : CtR l g a yX3_readNot cX3_readNot 5 (13 + 10 * (d + 1)) (190 + 200 * (d + 1)) K b n N (nI (5 - (d + 1))) (ntL (tcS b n) (tnS b n) (d + 1)) := fun M p acc hrd => c_X3_readNot l g a M K hK _ _ _ _ _ (by omega) (by omega) (by omega) (by omega) b n N hN hN2 (13 + 10 * d) (190 + 200 * d) (by omega) (by omega) (d + 1) hd rfl _ _ (Or.inr hgp.2.1) hgd.2.2.2.1 (Or.inr (by rw [opn hd]; exact i2)) h3 p acc hrd
    have h5 : CtR l g a yX3_readAnd cX3_readAnd 5 (14 + 10 * (d + 1)) (220 + 200 * (d + 1)) K b n N (nI (5 - (d + 1))) (anL (tcS b n) (tnS b n) (d + 1)) := fun M p acc hrd => c_X3_readAnd l g a M K hK _ _ _ _ _ (by omega) (by omega) (by omega) (by omega) b n N hN hN2 _ hgd.2.1 h4 p acc hrd
    refine ⟨h1, h4, fun M p acc hrd => ?_⟩
    rw [orL_e]
    exact c_X3_readOr l g a M K hK _ _ _ _ _ (by omega) (by omega) (by omega) (by omega) b n N hN hN2 _ hgd.2.2.2.2.2 h5 p acc hrd
-- what is kept comes behind
def exS (f : PF) : Prop := ∀ p acc, ∃ c, (f p acc).2.2 = acc ++ c
theorem lpS_ex {tc : Nat → Int32} {ok : Int32 → Bool} {f : PF} (hf : exS f) : ∀ k (r : PS), ∃ c, (lpS tc ok f k r).2.2 = r.2.2 ++ c
  | 0, r => ⟨[], by simp [lpS]⟩
  | k + 1, r => by
    rw [lpS]
    split
    · obtain ⟨c1, h1⟩ := hf (r.2.1 + 1) r.2.2
      obtain ⟨c2, h2⟩ := lpS_ex hf k ((f (r.2.1 + 1) r.2.2).1, (f (r.2.1 + 1) r.2.2).2.1, (f (r.2.1 + 1) r.2.2).2.2 ++ [-(tc r.2.1)])
      exact ⟨c1 ++ ([-(tc r.2.1)] ++ c2), by rw [h2, h1]; simp⟩
    · exact ⟨[], by simp⟩
theorem seS'_ex {tc : Nat → Int32} {ok : Int32 → Bool} {f : PF} (hf : exS f) : exS (seS' tc ok f) := fun p acc => by
  obtain ⟨c1, h1⟩ := hf p acc
  obtain ⟨c2, h2⟩ := lpS_ex (tc := tc) (ok := ok) hf 160 (f p acc)
  exact ⟨c1 ++ c2, by unfold seS'; rw [h2, h1]; simp⟩
theorem noS_ex : exS noS := fun _ acc => ⟨[], by simp [noS]⟩
theorem oneS_ex {tc tn : Nat → Int32} {d : Nat} {o e : PF} (h1 : exS o) (h2 : exS e) : exS (oneS tc tn d o e) := fun p acc => by
  obtain ⟨c1, e1⟩ := h1 (p + 1) acc
  obtain ⟨c2, e2⟩ := h2 (p + 1) acc
  unfold oneS
  split
  · exact ⟨_, rfl⟩
  split
  · exact ⟨_, rfl⟩
  split
  · exact ⟨[], by simp⟩
  split
  · split
    · exact ⟨c2, e2⟩
    · exact ⟨c2, e2⟩
  · exact ⟨c1 ++ [-16], by simp only [e1]; simp⟩
theorem ntS_ex {tc : Nat → Int32} {d : Nat} {nt sum : PF} (h1 : exS nt) (h2 : exS sum) : exS (ntS tc d nt sum) := fun p acc => by
  obtain ⟨c1, e1⟩ := h1 (p + 1) acc
  obtain ⟨c2, e2⟩ := h2 p acc
  obtain ⟨c3, e3⟩ := h2 ((sum p acc).2.1 + 1) (sum p acc).2.2
  unfold ntS
  split
  · split
    · exact ⟨[], by simp⟩
    · exact ⟨c1 ++ [-12], by simp only [e1]; simp⟩
  split
  · exact ⟨c2, e2⟩
  split
  · exact ⟨c2 ++ (c3 ++ [-(tc (sum p acc).2.1)]), by show (sum ((sum p acc).2.1 + 1) (sum p acc).2.2).2.2 ++ [-(tc (sum p acc).2.1)] = _; rw [e3, e2]; simp⟩
  · exact ⟨c2, e2⟩
theorem lvS_ex {tc tn : Nat → Int32} : ∀ d, exS (onL tc tn d) ∧ exS (ntL tc tn d) ∧ exS (orL tc tn d)
  | 0 => by
    have h1 : exS (onL tc tn 0) := oneS_ex noS_ex noS_ex
    have h4 : exS (ntL tc tn 0) := ntS_ex noS_ex (seS'_ex (seS'_ex h1))
    exact ⟨h1, h4, by rw [orL_e]; exact seS'_ex (seS'_ex h4)⟩
  | d + 1 => by
    obtain ⟨i1, i2, i3⟩ := lvS_ex (tc := tc) (tn := tn) d
    have h1 : exS (onL tc tn (d + 1)) := oneS_ex i1 i3
    have h4 : exS (ntL tc tn (d + 1)) := ntS_ex i2 (seS'_ex (seS'_ex h1))
    exact ⟨h1, h4, by rw [orL_e]; exact seS'_ex (seS'_ex h4)⟩
theorem paL_ex {tc tn : Nat → Int32} {key : Int32} : exS (paL tc tn key) := fun p acc => by
  obtain ⟨c, e⟩ := (lvS_ex (tc := tc) (tn := tn) 5).2.2 (p + 1) acc
  unfold paL
  split
  · exact ⟨[], by simp⟩
  · split
    · exact ⟨c, e⟩
    · exact ⟨c, e⟩

theorem rdX_e {M : Nat → Nat → Int32} {b : Nat → Int32} {n N K p q : Nat} {acc : List Int32} {v : Int32} (hK : isTx K) (h : rdX M b n N K p acc) : rdX (uM M (K + 2) q v) b n N K p acc := by
  have := Tx24 hK
  obtain ⟨h1, h2, h3, h4, h5, h6⟩ := h
  exact ⟨scR_c h1 (uM_ne (by omega)) (uM_ne (by omega)) (uM_ne (by omega)) (uM_ne (by omega)) (uM_ne (by omega)), by rw [uM_ne (by omega)]; exact h2, by rw [uM_ne (by omega)]; exact h3, by rw [uM_ne (by omega), uM_ne (by omega)]; exact h4, h5, h6⟩
set_option maxHeartbeats 4000000 in
set_option maxRecDepth 100000 in
theorem c_X3_readPart (l : Launch) (g : jG) (a : Nat → Nat) (M : (Nat → Nat → Int32)) (K : Nat) (hK : isTx K) (key : Int32) (q : Int32) (b : Nat → Int32) (n N : Nat) (hN : ∀ k, N ≤ k → (tcS b n) k = 14) (hN2 : N ≤ 160) (hk : ¬ key = 14) (q' : Nat) (hq : q = nI q') (hq2 : q' < 3) (p : Nat) (acc : List Int32) (hrd : rdX M b n N K p acc) : Ci l g yX3_readPart cX3_readPart 4 .boolean 100 2000 0 0 (cW g a) [.ref (a 4), .ref (a K), .int key, .int q] M (fun r z => r = bI (paL (tcS b n) (tnS b n) key p acc).1 ∧ rdX z b n N K (paL (tcS b n) (tnS b n) key p acc).2.1 (paL (tcS b n) (tnS b n) key p acc).2.2 ∧ (∀ k, k ≠ 4 → k ≠ K → k ≠ K + 1 → k ≠ K + 2 → z k = M k) ∧ (∀ j, j ≠ 2 → z K j = M K j) ∧ z (K + 2) = if (paL (tcS b n) (tnS b n) key p acc).1 = true then upd (M (K + 2)) q' (nI (paL (tcS b n) (tnS b n) key p acc).2.2.length) else M (K + 2)) := by
  refine mk_i (by decide +kernel) rfl (fun KK hKl hKg C hin hret => ?_)
  subst hKl; subst hKg
  refine j_lv (lv' := [(0, _), (1, _), (2, _), (3, _)]) rfl ?_
  have hK5 := Tx24 hK
  have hpN := hrd.2.2.2.2.2
  have hal := hrd.2.2.2.2.1
  have hlv := (lvR (kL KK) (kG KK) a K hK b n N hN hN2 5 (by omega)).2.2
  refine j_aload_n C dX3_readPart_0 rfl rfl ?_
  refine j_iload_n C dX3_readPart_1 rfl rfl ?_
  refine j_calliv C (c_X3_passed _ _ _ _ _ b n p hrd.1 hrd.2.1 hrd.2.2.1 (by omega)) dX3_readPart_2 jm_RX3_41 ⟨_, _, _, _, wO cRd, rfl, rfl⟩ ⟨by omega, by omega, by omega, by omega⟩ rfl (Nat.le_of_ble_eq_true rfl) (fun r z hz => ?_)
  rcases hz with ⟨rfl, hr_2, hz⟩ | ⟨rfl, hr_2, hz⟩
  · have hz := hz.symm; subst hz
    have hlt : p < N := by
      rcases Nat.lt_or_ge p N with h | h
      · exact h
      · exact absurd (hr_2.symm.trans (hN _ h)) hk
    have hrd4 := rdX_at hK hrd (p + 1) (by omega) (by omega)
    have hgd := (lvS_gd (tc := tcS b n) (tn := tnS b n) (N := N) hN 5).2.2.1 (p + 1) acc hlt
    refine j_if_eq (tgt := 26) C dX3_readPart_5 (by decide) (fun c => absurd c (by decide)) (fun _ => ?_)
    refine j_aload_n C dX3_readPart_8 rfl rfl ?_
    refine j_aload_n C dX3_readPart_9 rfl rfl ?_
    refine j_iconst (v := 0) C dX3_readPart_10 rfl ?_
    refine j_calliv C (hlv _ _ _ hrd4) dX3_readPart_11 jm_RX3_45 ⟨_, _, _, _, wO cRd, rfl, rfl⟩ ⟨by omega, by omega, by omega, by omega⟩ rfl (Nat.le_of_ble_eq_true rfl) (fun r_11 z_11 hz_11 => ?_)
    obtain ⟨hr, hrd9, hf_11⟩ := hz_11
    have hr := hr.symm; subst hr
    refine j_if_eq (tgt := 26) C dX3_readPart_14 (by decide) (fun c_14 => ?_) (fun c_14 => ?_)
    · skip
      refine j_iconst (v := 0) C dX3_readPart_26 rfl ?_
      refine hret _ _ _ _ dX3_readPart_27 rfl ?_
      first
        | (have e9 : (paL (tcS b n) (tnS b n) key p acc) = (false, p, acc) := by unfold paL; rw [if_pos hr_2]
           rw [e9]; exact ⟨rfl, hrd, fun _ _ _ _ _ => rfl, fun _ _ => rfl, rfl⟩)
        | (have e9 : (paL (tcS b n) (tnS b n) key p acc) = (false, (orL (tcS b n) (tnS b n) 5 (p + 1) acc).2.1, (orL (tcS b n) (tnS b n) 5 (p + 1) acc).2.2) := by
             unfold paL; rw [if_neg (fun h => h hr_2), if_neg (fun h => by rw [bI_0.mp c_14] at h; exact absurd h.1 (by decide))]
           have hF := frR_t (frR_at hK) hf_11
           rw [e9]; exact ⟨rfl, hrd9, fun k h1 h2 h3 _ => hF.1 k h1 h2 h3, hF.2, hF.1 (K + 2) (by omega) (by omega) (by omega)⟩)
        | (have e9 : (paL (tcS b n) (tnS b n) key p acc) = (false, (orL (tcS b n) (tnS b n) 5 (p + 1) acc).2.1, (orL (tcS b n) (tnS b n) 5 (p + 1) acc).2.2) := by
             unfold paL; rw [if_neg (fun h => h hr_2), if_neg (fun h => hr_20 h.2)]
           have hF := frR_t (frR_at hK) hf_11
           rw [e9]; exact ⟨rfl, hrd9, fun k h1 h2 h3 _ => hF.1 k h1 h2 h3, hF.2, hF.1 (K + 2) (by omega) (by omega) (by omega)⟩)
    · skip
      have h1t : (orL (tcS b n) (tnS b n) 5 (p + 1) acc).1 = true := by
        cases hq : (orL (tcS b n) (tnS b n) 5 (p + 1) acc).1 with
        | true => rfl
        | false => exact absurd (bI_0.mpr hq) c_14
      refine j_aload_n C dX3_readPart_17 rfl rfl ?_
      refine j_bipush (v := 59) C dX3_readPart_18 rfl ?_
      refine j_calliv C (c_X3_passed _ _ _ _ _ b n (orL (tcS b n) (tnS b n) 5 (p + 1) acc).2.1 hrd9.1 hrd9.2.1 hrd9.2.2.1 (by omega)) dX3_readPart_20 jm_RX3_41 ⟨_, _, _, _, wO cRd, rfl, rfl⟩ ⟨by omega, by omega, by omega, by omega⟩ rfl (Nat.le_of_ble_eq_true rfl) (fun r z hz => ?_)
      rcases hz with ⟨rfl, hr_20, hz⟩ | ⟨rfl, hr_20, hz⟩
      · have hz := hz.symm; subst hz
        have hlt2 : (orL (tcS b n) (tnS b n) 5 (p + 1) acc).2.1 < N := by
          rcases Nat.lt_or_ge (orL (tcS b n) (tnS b n) 5 (p + 1) acc).2.1 N with h | h
          · exact h
          · exact absurd ((hN _ h).symm.trans hr_20) (by decide)
        have hrd7 := rdX_at hK hrd9 ((orL (tcS b n) (tnS b n) 5 (p + 1) acc).2.1 + 1) (by omega) (by omega)
        refine j_if_ne (tgt := 28) C dX3_readPart_23 (by decide) (fun _ => ?_) (fun c => absurd c (by decide))
        refine j_aload_n C dX3_readPart_28 rfl rfl ?_
        refine j_iload_n C dX3_readPart_29 rfl rfl ?_
        refine j_callvv C (c_X7_endPart _ _ _ _ K hK _ q' hq hq2) dX3_readPart_30 jm_RX3_49 ⟨_, _, _, _, wO (cTx hK), rfl, rfl⟩ ⟨by omega, by omega, by omega, by omega⟩ rfl (Nat.le_of_ble_eq_true rfl) (fun z_30 hz_30 => ?_)
        have hz_30 := hz_30.symm; subst hz_30
        refine j_iconst (v := 1) C dX3_readPart_33 rfl ?_
        refine hret _ _ _ _ dX3_readPart_34 rfl ?_
        have e9 : (paL (tcS b n) (tnS b n) key p acc) = (true, (orL (tcS b n) (tnS b n) 5 (p + 1) acc).2.1 + 1, (orL (tcS b n) (tnS b n) 5 (p + 1) acc).2.2) := by
          unfold paL; rw [if_neg (fun h => h hr_2), if_pos ⟨h1t, hr_20⟩]
        have hF := frR_t (frR_t (frR_at hK) hf_11) (frR_at (M := z_11) (q := (orL (tcS b n) (tnS b n) 5 (p + 1) acc).2.1 + 1) hK)
        rw [e9]
        refine ⟨rfl, rdX_e hK hrd7, fun k h1 h2 h3 h4 => by rw [uM_ne h4]; exact hF.1 k h1 h2 h3, fun j hj => by rw [uM_ne (show K ≠ K + 2 by omega)]; exact hF.2 j hj, ?_⟩
        rw [uM_eq, hF.1 (K + 2) (by omega) (by omega) (by omega)]
        exact congrArg (upd (M (K + 2)) q') hrd7.2.2.2.1.1
      · have hz := hz.symm; subst hz
        refine j_if_ne (tgt := 28) C dX3_readPart_23 (by decide) (fun c => absurd (by decide) c) (fun _ => ?_)
        refine j_iconst (v := 0) C dX3_readPart_26 rfl ?_
        refine hret _ _ _ _ dX3_readPart_27 rfl ?_
        first
          | (have e9 : (paL (tcS b n) (tnS b n) key p acc) = (false, p, acc) := by unfold paL; rw [if_pos hr_2]
             rw [e9]; exact ⟨rfl, hrd, fun _ _ _ _ _ => rfl, fun _ _ => rfl, rfl⟩)
          | (have e9 : (paL (tcS b n) (tnS b n) key p acc) = (false, (orL (tcS b n) (tnS b n) 5 (p + 1) acc).2.1, (orL (tcS b n) (tnS b n) 5 (p + 1) acc).2.2) := by
               unfold paL; rw [if_neg (fun h => h hr_2), if_neg (fun h => by rw [bI_0.mp c_14] at h; exact absurd h.1 (by decide))]
             have hF := frR_t (frR_at hK) hf_11
             rw [e9]; exact ⟨rfl, hrd9, fun k h1 h2 h3 _ => hF.1 k h1 h2 h3, hF.2, hF.1 (K + 2) (by omega) (by omega) (by omega)⟩)
          | (have e9 : (paL (tcS b n) (tnS b n) key p acc) = (false, (orL (tcS b n) (tnS b n) 5 (p + 1) acc).2.1, (orL (tcS b n) (tnS b n) 5 (p + 1) acc).2.2) := by
               unfold paL; rw [if_neg (fun h => h hr_2), if_neg (fun h => hr_20 h.2)]
             have hF := frR_t (frR_at hK) hf_11
             rw [e9]; exact ⟨rfl, hrd9, fun k h1 h2 h3 _ => hF.1 k h1 h2 h3, hF.2, hF.1 (K + 2) (by omega) (by omega) (by omega)⟩)
  · have hz := hz.symm; subst hz
    refine j_if_eq (tgt := 26) C dX3_readPart_5 (by decide) (fun _ => ?_) (fun c => absurd (by decide) c)
    refine j_iconst (v := 0) C dX3_readPart_26 rfl ?_
    refine hret _ _ _ _ dX3_readPart_27 rfl ?_
    first
      | (have e9 : (paL (tcS b n) (tnS b n) key p acc) = (false, p, acc) := by unfold paL; rw [if_pos hr_2]
         rw [e9]; exact ⟨rfl, hrd, fun _ _ _ _ _ => rfl, fun _ _ => rfl, rfl⟩)
      | (have e9 : (paL (tcS b n) (tnS b n) key p acc) = (false, (orL (tcS b n) (tnS b n) 5 (p + 1) acc).2.1, (orL (tcS b n) (tnS b n) 5 (p + 1) acc).2.2) := by
           unfold paL; rw [if_neg (fun h => h hr_2), if_neg (fun h => by rw [bI_0.mp c_14] at h; exact absurd h.1 (by decide))]
         have hF := frR_t (frR_at hK) hf_11
         rw [e9]; exact ⟨rfl, hrd9, fun k h1 h2 h3 _ => hF.1 k h1 h2 h3, hF.2, hF.1 (K + 2) (by omega) (by omega) (by omega)⟩)
      | (have e9 : (paL (tcS b n) (tnS b n) key p acc) = (false, (orL (tcS b n) (tnS b n) 5 (p + 1) acc).2.1, (orL (tcS b n) (tnS b n) 5 (p + 1) acc).2.2) := by
           unfold paL; rw [if_neg (fun h => h hr_2), if_neg (fun h => hr_20 h.2)]
         have hF := frR_t (frR_at hK) hf_11
         rw [e9]; exact ⟨rfl, hrd9, fun k h1 h2 h3 _ => hF.1 k h1 h2 h3, hF.2, hF.1 (K + 2) (by omega) (by omega) (by omega)⟩)
