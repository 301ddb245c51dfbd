theorem e_start {args : Array Value} {s : State} (hg : gvL.before args s = true) (ht : ∀ w ∈ lw_tbl, w.before args s = true) {A : Nat → Prop} (hA : ∀ q : Nat, q < s.heap.size → ¬ A q) : ∃ e : jEv, jE e A s s.heap := by
  have hs := flat_of_before _ hg
  obtain ⟨t, ht1, ht2⟩ := va_Tof (tm := atm) (N := 6) (f := fun j => .int (abv j)) (A := A) (by decide) (hs _ f_ab.1) (va_eqt (hs _ f_ab.2.1)) (fun j hj => va_eqt (hs _ (f_ab.2.2 j hj))) hA
  obtain ⟨adK, adV, hS, hR⟩ := vk_Sof (N := 14) (tm := stm) (len := sLen) (byt := sByt) (A := A) (by decide) (fun i hi => hs _ (f_ex i hi)) (fun i hi => hs _ (f_co i hi)) (fun i hi => hs _ (f_ar i hi)) (fun i hi => hs _ (f_le i hi)) (fun i hi j hj => hs _ (f_el i hi j hj)) (fun i j hi hj hij => by
    rcases Nat.lt_or_ge j i with h | h
    · exact (f_ne i hi j h).elim (fun k => Or.inl (hs _ k)) (fun k => Or.inr (hs _ k))
    · exact (f_ne j hj i (by omega)).elim (fun k => Or.inr (hs _ k)) (fun k => Or.inl (hs _ k))) hA
  exact ⟨(t, adK, adV), va_Zref (ht _ f_ls.1) (ht _ f_ls.2.2.2.1) ht1 hA, ht2, va_Zof (ht _ f_ls.2.1) (ht _ f_ls.2.2.2.2.1) (va_eqt (hs _ f_cs.1)) hA, va_Zqof (ht _ f_ls.2.2.1) (ht _ f_ls.2.2.2.2.2) (hs _ f_cs.2) hA, hS, fun i hi => vk_R.of (ht _ (f_sr i hi)) (hR i hi), fun w hw => va_Nw.of (f_nw w hw).2 (ht w (f_nw w hw).1), va_AO.of (ht _ f_ao.1), va_AO.of (ht _ f_ao.2.1), va_AO.of (ht _ f_ao.2.2)⟩
/-- classes and classes of rows -/
theorem k_start {args : Array Value} {s : State} (ht : ∀ w ∈ lw_tbl, w.before args s = true) (e : jEv) : ∃ g : jG, gEv g = e ∧ va_K (gD g) vwCl (gty g) s := by
  have hw : ∀ w ∈ wsL_law, w.before args s = true := fun w h => ht w (wsL_law_in w h)
  have k0 := u_known (n := 4) hw uw_0 (hw _ jin_RX0)
  have k1 := u_known (n := 5) hw uw_1 (hw _ jin_RX1)
  have k2 := u_known (n := 5) hw uw_2 (hw _ jin_RX2)
  have k3 := u_known (n := 2) hw uw_3 (hw _ jin_RX3)
  have k4 := u_known (n := 8) hw uw_4 (hw _ jin_RX4)
  have k5 := u_known (n := 3) hw uw_5 (hw _ jin_RX5)
  have k6 := u_known (n := 6) hw uw_6 (hw _ jin_RX6)
  have k7 := u_known (n := 3) hw uw_7 (hw _ jin_RX7)
  have k8 := u_known (n := 3) hw uw_8 (hw _ jin_RX8)
  have k9 := u_known (n := 12) hw uw_9 (hw _ jin_RX9)
  have k10 := u_known (n := 37) hw uw_10 (hw _ jin_RX10)
  obtain ⟨D, hD⟩ : ∃ D : va_G, ∀ (c : Nat) (q : vw_C), vwCl[c]? = some q → u_Kn s q.1 q.2.1 q.2.2 (D.1 c) (D.2 c) := by
    have hall : ∀ c : Nat, ∃ p : ClassId × (Nat → Nat), ∀ q : vw_C, vwCl[c]? = some q → u_Kn s q.1 q.2.1 q.2.2 p.1 p.2 := by
      intro c
      match c with
      | 0 => obtain ⟨a, i, h⟩ := k0; exact ⟨(a, i), fun q hq => by cases hq; exact h⟩
      | 1 => obtain ⟨a, i, h⟩ := k1; exact ⟨(a, i), fun q hq => by cases hq; exact h⟩
      | 2 => obtain ⟨a, i, h⟩ := k2; exact ⟨(a, i), fun q hq => by cases hq; exact h⟩
      | 3 => obtain ⟨a, i, h⟩ := k3; exact ⟨(a, i), fun q hq => by cases hq; exact h⟩
      | 4 => obtain ⟨a, i, h⟩ := k4; exact ⟨(a, i), fun q hq => by cases hq; exact h⟩
      | 5 => obtain ⟨a, i, h⟩ := k5; exact ⟨(a, i), fun q hq => by cases hq; exact h⟩
      | 6 => obtain ⟨a, i, h⟩ := k6; exact ⟨(a, i), fun q hq => by cases hq; exact h⟩
      | 7 => obtain ⟨a, i, h⟩ := k7; exact ⟨(a, i), fun q hq => by cases hq; exact h⟩
      | 8 => obtain ⟨a, i, h⟩ := k8; exact ⟨(a, i), fun q hq => by cases hq; exact h⟩
      | 9 => obtain ⟨a, i, h⟩ := k9; exact ⟨(a, i), fun q hq => by cases hq; exact h⟩
      | 10 => obtain ⟨a, i, h⟩ := k10; exact ⟨(a, i), fun q hq => by cases hq; exact h⟩
      | c + 11 => exact ⟨(k0.choose, fun _ => 0), fun q hq => by
          have h1 : c + 11 < 11 := (List.getElem?_eq_some_iff.mp hq).1
          exact absurd h1 (by omega)⟩
    obtain ⟨f, hf⟩ := Classical.axiomOfChoice hall
    exact ⟨(fun c => (f c).1, fun c => (f c).2), hf⟩
  obtain ⟨cI, kI, pI, a1, a2, a3⟩ := Cond.arrayClass_spec (hw _ jac_int)
  obtain ⟨cZ, kZ, pZ, b1, b2, b3⟩ := Cond.arrayClass_spec (hw _ jac_boolean)
  obtain ⟨pG, cG, kG', g1, g2, g3, g4, g5⟩ := Cond.arrayOver_spec (ht _ f_ao.1)
  obtain ⟨pT, cT, kT, t1, t2, t3, t4, t5⟩ := Cond.arrayOver_spec (ht _ f_ao.2.1)
  obtain ⟨pR, cR, kR', r1, r2, r3, r4, r5⟩ := Cond.arrayOver_spec (ht _ f_ao.2.2)
  refine ⟨(D, (cI, cZ, cG, cT, cR), e), rfl, hD, fun k q hk => ?_⟩
  match k with
  | 0 => cases hk; exact ⟨fun n z => ⟨(fun k h => by cases h), kI, a2, pI, a3⟩, a1⟩
  | 1 => cases hk; exact ⟨fun n z => ⟨(fun k h => by cases h), kZ, b2, pZ, b3⟩, b1⟩
  | 2 => cases hk; exact ⟨fun n z => ⟨(fun k h => by cases h), kG', g3, pG, g4⟩, kG', pG, g3, g4, g1, g5⟩
  | 3 => cases hk; exact ⟨fun n z => ⟨(fun k h => by cases h), kT, t3, pT, t4⟩, kT, pT, t3, t4, t1, t5⟩
  | 4 => cases hk; exact ⟨fun n z => ⟨(fun k h => by cases h), kR', r3, pR, r4⟩, kR', pR, r3, r4, r1, r5⟩
  | k + 5 =>
    have h1 : k + 5 < 5 := (List.getElem?_eq_some_iff.mp hk).1
    exact absurd h1 (by omega)

