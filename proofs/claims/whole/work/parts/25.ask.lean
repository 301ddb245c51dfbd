/-! what the calls answer, in words that both sides share -/
theorem in_of {q m : Int32} {B : Nat} (h : 0 ≤ q ∧ q < m) (hm : m = nI B) (hB : B < 2147483648 := by decide) : ∃ j, j < B ∧ q = nI j := ⟨q.toNatClampNeg, cl_lt h.1 h.2 hm hB, cl_nI h.1⟩
def daS (T : Nat → List Int32) (r : Nat → Int32) (f b s : Int32) (d : Nat) (w : Int32) : Int32 := if w = 0 then whS T r f d else if w = 1 then lkS T r f f b s d else miS T r f d
theorem shS_in {r : Nat → Int32} {v s : Int32} : 0 ≤ shS r v s ∧ shS r v s ≤ 100 := wi_in (by decide)
theorem lkS_in {T : Nat → List Int32} {r : Nat → Int32} {f a b s : Int32} {d : Nat} : 0 ≤ lkS T r f a b s d ∧ lkS T r f a b s d ≤ 100 := by
  unfold lkS
  split
  · decide
  · split
    · exact shS_in
    · decide
-- a likely day as a number
theorem i32_nat {x : Int32} (h : 0 ≤ x ∧ x ≤ 100) : ∃ j : Nat, j ≤ 100 ∧ x = nI j := by
  obtain ⟨j, hj, e⟩ := nI_of2 (M := 100) (n := 100) rfl (x := x) (by simp only [Int32.lt_iff_toInt_lt, Int32.le_iff_toInt_le, Int32.reduceToInt] at *; omega) h.2
  exact ⟨j, hj, e⟩
theorem sub100 {j : Nat} (h : j ≤ 100) : (100 : Int32) - nI j = nI (100 - j) := pk_sub (a := 100) h
/-- FOUND: below the line 100 ^ n, unseen -/
def unS (lk : Nat → Int32) : Nat → Nat
  | 0 => 1
  | d + 1 => unS lk d * (100 - (lk d).toNatClampNeg)
theorem unS_le {lk : Nat → Int32} : ∀ n, unS lk n ≤ 100 ^ n
  | 0 => Nat.le_refl 1
  | n + 1 => by
    rw [unS, Nat.pow_succ]
    exact Nat.mul_le_mul (unS_le n) (by omega)
def frS (A B : Nat) (part : Int32) : Int64 := lN ((if part = 0 then A else B) / Nat.gcd A B)
def fdS (lk : Nat → Int32) (n : Nat) (part : Int32) : Int64 := frS (100 ^ n - unS lk n) (100 ^ n) part
/-- WAITING -/
def wtS (lk mi : Nat → Int32) : Nat → Int64
  | 0 => 0
  | d + 1 => wtS lk mi d + leS 1000000 lk d * (mi d).toInt64
/-- the first of the most -/
def amS (v : Nat → Int64) : Nat → Nat
  | 0 => 0
  | k + 1 => if v (amS v k) < v k then k else amS v k
def baS (lk : Nat → Int32) : Nat → Nat
  | 0 => 0
  | d + 1 => if lk (baS lk d) < lk d then d else baS lk d
def giS (lk : Nat → Int32) (k : Int32) : Nat → Nat
  | 0 => 0
  | d + 1 => if k ≤ lk d then d + 1 else giS lk k d
/-- the most of those that are tried: (most, which) -/
def fiS (v : Nat → Int64) : Nat → Int64 × Int32
  | 0 => (-1, -1)
  | i + 1 => if (fiS v i).1 < v i then (v i, nI i) else fiS v i
def chS (lk : Nat → Int32) (seed : Int32) : Nat → Nat
  | 0 => 0
  | k + 1 => chS lk seed k + if seS lk (seed + nI k) 30 0 = -1 then 0 else 1
theorem chS_le {lk : Nat → Int32} {seed : Int32} : ∀ n, chS lk seed n ≤ n
  | 0 => Nat.le_refl 0
  | n + 1 => by
    have := chS_le (lk := lk) (seed := seed) n
    rw [chS]; split <;> omega
-- Euclid
theorem eu_step {R D k : Nat} (h : (R * D + 1) * 2 ≤ 2 ^ (k + 1)) (hD : 0 < D) (hle : D ≤ R) : (D * (R % D) + 1) * 2 ≤ 2 ^ k := by
  have h1 : R % D < D := Nat.mod_lt _ hD
  have h2 : D + R % D ≤ R := by
    have e := Nat.div_add_mod R D
    have : 1 ≤ R / D := (Nat.one_le_div_iff hD).mpr hle
    have : D * 1 ≤ D * (R / D) := Nat.mul_le_mul (Nat.le_refl D) this
    omega
  have h3 : D * (D + R % D) ≤ D * R := Nat.mul_le_mul (Nat.le_refl D) h2
  have h4 : D * (R % D + 1) ≤ D * D := Nat.mul_le_mul (Nat.le_refl D) h1
  rw [Nat.mul_add] at h3 h4
  rw [Nat.mul_comm D R] at h3
  rw [Nat.pow_succ] at h
  omega
theorem lN_inj0 {n : Nat} (h : n < 2 ^ 63) : lN n = 0 ↔ n = 0 := pk_lEQ (b := 0) h (by decide)
theorem p100 {n : Nat} (h : n ≤ 8) : 100 ^ n ≤ 10000000000000000 := Nat.le_trans (Nat.pow_le_pow_right (by decide) h) (by decide)
theorem pow2_107 : (10000000000000000 * 10000000000000000 + 1) * 2 ≤ 2 ^ 110 := by decide
-- what is left stays small
theorem i64_toInt_nI {n : Nat} (h : n < 2 ^ 31) : (nI n).toInt64 = lN n := nI_l h
def leN (w : Nat) (lk : Nat → Int32) : Nat → Nat
  | 0 => w
  | d + 1 => leN w lk d * (100 - (lk d).toNatClampNeg) / 100
theorem leN_le {w : Nat} {lk : Nat → Int32} : ∀ n, leN w lk n ≤ w
  | 0 => Nat.le_refl w
  | n + 1 => by
    have h := leN_le (w := w) (lk := lk) n
    rw [leN]
    have h2 : leN w lk n * (100 - (lk n).toNatClampNeg) ≤ w * 100 := Nat.mul_le_mul h (by omega)
    omega
theorem leS_leN {w : Nat} {lk : Nat → Int32} (hw : w ≤ 1000000000) (hl : ∀ d, 0 ≤ lk d ∧ lk d ≤ 100) : ∀ n, leS (lN w) lk n = lN (leN w lk n)
  | 0 => rfl
  | n + 1 => by
    have h := leN_le (w := w) (lk := lk) n
    rw [leS, leN, leS_leN hw hl n]
    obtain ⟨j, hj, e⟩ := i32_nat (hl n)
    rw [e, nI_clamp (by omega), sub100 hj, nI_l (by omega), lN_mul]
    have h2 : leN w lk n * (100 - j) ≤ w * 100 := Nat.mul_le_mul h (by omega)
    exact pk_lDiv (b := 100) (by omega) (by decide) (by decide)
theorem paS_in {lk : Nat → Int32} {n : Nat} (hl : ∀ d, 0 ≤ lk d ∧ lk d ≤ 100) : ∃ P, P ≤ 1000000000 ∧ paS lk n = lN P := by
  have h := leN_le (w := 1000000000) (lk := lk) n
  refine ⟨1000000000 - leN 1000000000 lk n, by omega, ?_⟩
  have e := leS_leN (w := 1000000000) (lk := lk) (by decide) hl n
  rw [paS, show (1000000000 : Int64) = lN 1000000000 from rfl, e, lN_sub h]
theorem ok_pos {c : Prop} [Decidable c] {α : Type} {r u v : α} {F : Prop} (h : c) (k : r = u ∧ F) : r = (if c then u else v) ∧ F := ⟨k.1.trans (if_pos h).symm, k.2⟩

set_option maxHeartbeats 4000000 in
set_option maxRecDepth 100000 in
theorem c_X9_day (l : Launch) (g : jG) (a : Nat → Nat) (M : (Nat → Nat → Int32)) (p : Int32) (q : Int32) (w : Int32) (n t ru : Nat) (T : Nat → Nat → List Int32) (hX : inX M n t ru T) : Ci l g yX9_day cX9_day 5 .int 5 117 0 0 (cW g a) [.ref (a 0), .int p, .int q, .int w] M (fun r z => r = (if (0 ≤ p ∧ p < M 0 1) ∧ (0 ≤ q ∧ q < 30) ∧ (0 ≤ w ∧ w < 3) then daS (T ru) (M (28 + p.toNatClampNeg)) (M 2 0) (M 2 1) (M 2 2) q.toNatClampNeg w else -2) ∧ fkX M z) := by
  refine mk_i (by decide +kernel) rfl (fun KK hKl hKg C hin hret => ?_)
  subst hKl; subst hKg
  refine j_lv (lv' := [(0, _), (1, _), (2, _), (3, _)]) rfl ?_
  have hn6 := hX.1.2
  refine j_aload_n C dX9_day_0 rfl rfl ?_
  refine j_iload_n C dX9_day_1 rfl rfl ?_
  refine j_callqv C (c_X9_gloveAt _ _ _ _ _ n hX.1.1 hn6) dX9_day_2 jm_RX9_110 ⟨_, _, _, _, wO cX0, rfl, rfl⟩ ⟨by decide, by decide, by decide, by decide⟩ rfl (Nat.le_of_ble_eq_true rfl) (fun r z hz => ?_)
  obtain ⟨hb, hz⟩ := hz; have hz := hz.symm; subst hz
  rcases hb with ⟨i_2, hi_2, he_2, rfl⟩ | ⟨hno_2, rfl⟩
  · skip
    refine j_astore (lv' := [(4, _), (0, _), (1, _), (2, _), (3, _)]) C dX9_day_5 (by decide) rfl ?_
    refine j_aload C dX9_day_7 rfl ?_
    refine j_ifnull C dX9_day_9 ?_
    refine j_iload_n C dX9_day_12 rfl rfl ?_
    refine j_bipush (v := 30) C dX9_day_13 rfl ?_
    refine j_callis C (c_X9_isIn _ _ _ _ _ _ ) dX9_day_15 jm_RX9_154 ⟨by decide, by decide, by decide, by decide⟩ rfl (Nat.le_of_ble_eq_true rfl) (fun r z hz => ?_)
    obtain ⟨hb, hz⟩ := hz; have hz := hz.symm; subst hz
    rcases hb with ⟨rfl, b_q⟩ | ⟨rfl, b_q⟩
    · skip
      obtain ⟨qn, hq, rfl⟩ := in_of (B := 30) b_q rfl
      subst he_2
      refine j_if_eq (tgt := 29) C dX9_day_18 (by decide) (fun c => absurd c (by decide)) (fun _ => ?_)
      refine j_iload_n C dX9_day_21 rfl rfl ?_
      refine j_iconst (v := 3) C dX9_day_22 rfl ?_
      refine j_callis C (c_X9_isIn _ _ _ _ _ _ ) dX9_day_23 jm_RX9_154 ⟨by decide, by decide, by decide, by decide⟩ rfl (Nat.le_of_ble_eq_true rfl) (fun r z hz => ?_)
      obtain ⟨hb, hz⟩ := hz; have hz := hz.symm; subst hz
      rcases hb with ⟨rfl, b_w⟩ | ⟨rfl, b_w⟩
      · skip
        refine j_if_ne (tgt := 32) C dX9_day_26 (by decide) (fun _ => ?_) (fun c => absurd c (by decide))
        refine j_aload_n C dX9_day_32 rfl rfl ?_
        refine j_aload C dX9_day_33 rfl ?_
        refine j_callvv C (c_X9_follow _ _ _ _ (28 + i_2) (isGl_h (Nat.lt_of_lt_of_le hi_2 hn6)) n t ru T hX) dX9_day_35 jm_RX9_173 ⟨_, _, _, _, wO cX0, rfl, rfl⟩ ⟨by decide, by decide, by decide, by decide⟩ rfl (Nat.le_of_ble_eq_true rfl) (fun z_35 hz_35 => ?_)
        obtain ⟨zf_35, zw_35, zl_35⟩ := hz_35
        have hX2 : inX z_35 n t ru T := inX_c hX (zf_35 0 (by omega)) (zf_35 2 (by omega)) (fun k a b => zf_35 k (by omega))
        refine j_iload_n C dX9_day_38 rfl rfl ?_
        refine j_if_ne (tgt := 51) C dX9_day_39 (by decide) (fun c_3 => ?_) (fun c_3 => ?_)
        · skip
          refine j_iload_n C dX9_day_51 rfl rfl ?_
          refine j_iconst (v := 1) C dX9_day_52 rfl ?_
          refine j_icmp_ne (tgt := 67) C dX9_day_53 (by decide) (fun c_4 => ?_) (fun c_4 => ?_)
          · skip
            refine j_aload_n C dX9_day_67 rfl rfl ?_
            refine j_iload_n C dX9_day_68 rfl rfl ?_
            refine j_aload C dX9_day_69 rfl ?_
            refine j_calliv C (c_X9_mindsOn _ _ _ _ _ (28 + i_2) (isGl_h (Nat.lt_of_lt_of_le hi_2 hn6)) n t ru T hX2 qn rfl hq) dX9_day_71 jm_RX9_183 ⟨_, _, _, _, wO cX0, rfl, rfl⟩ ⟨by decide, by decide, by decide, by decide⟩ rfl (Nat.le_of_ble_eq_true rfl) (fun r_71 z_71 hz_71 => ?_)
            obtain ⟨hr, zf_71⟩ := hz_71; have hr := hr.symm; subst hr
            refine hret _ _ _ _ dX9_day_74 rfl ?_
            refine ok_pos ⟨⟨(nI_0le hi_2 (by omega)).1, by rw [hX.1.1]; exact (nI_0le hi_2 (by omega)).2⟩, ⟨(nI_0le hq (by omega)).1, (nI_0le (n := 30) hq (by decide)).2⟩, b_w⟩ ?_
            rw [nI_clamp (show i_2 < 2147483648 by omega), nI_clamp (show qn < 2147483648 by omega)]
            first
              | exact ⟨by rw [daS, if_pos (by assumption)]; exact zw_35 qn hq, fun k hk => zf_35 k (by unfold scX at hk; omega)⟩
              | exact ⟨by rw [daS, if_neg (by assumption), if_pos (by assumption)]; exact zl_35 qn hq, fun k hk => zf_35 k (by unfold scX at hk; omega)⟩
              | (refine ⟨?_, fun k hk => by rw [zf_71 k (by unfold scX at hk; omega) (by unfold scX at hk; omega)]; exact zf_35 k (by unfold scX at hk; omega)⟩
                 refine Eq.trans (b := miS (T ru) (M (28 + i_2)) (M 2 0) qn) ?_ (by rw [daS, if_neg (by assumption), if_neg (by assumption)])
                 rw [zw_35 qn hq, zf_35 _ (by omega), zf_35 2 (by omega)]; rfl)
          · skip
            refine j_aload_n C dX9_day_56 rfl rfl ?_
            refine j_get C dX9_day_57 jf_RX9_51 (wO cX0) rfl ?_
            refine j_iload_n C dX9_day_60 rfl rfl ?_
            refine j_calliv C (c_X0_likelyOn _ _ _ _ _ qn rfl hq) dX9_day_61 jm_RX9_180 ⟨_, _, _, _, wO cCo, rfl, rfl⟩ ⟨by decide, by decide, by decide, by decide⟩ rfl (Nat.le_of_ble_eq_true rfl) (fun r z hz => ?_)
            obtain ⟨hr, hz⟩ := hz; have hr := hr.symm; have hz := hz.symm; subst hr; subst hz
            refine j_goto (tgt := 74) C dX9_day_64 (by decide) ?_
            refine hret _ _ _ _ dX9_day_74 rfl ?_
            refine ok_pos ⟨⟨(nI_0le hi_2 (by omega)).1, by rw [hX.1.1]; exact (nI_0le hi_2 (by omega)).2⟩, ⟨(nI_0le hq (by omega)).1, (nI_0le (n := 30) hq (by decide)).2⟩, b_w⟩ ?_
            rw [nI_clamp (show i_2 < 2147483648 by omega), nI_clamp (show qn < 2147483648 by omega)]
            first
              | exact ⟨by rw [daS, if_pos (by assumption)]; exact zw_35 qn hq, fun k hk => zf_35 k (by unfold scX at hk; omega)⟩
              | exact ⟨by rw [daS, if_neg (by assumption), if_pos (by assumption)]; exact zl_35 qn hq, fun k hk => zf_35 k (by unfold scX at hk; omega)⟩
              | (refine ⟨?_, fun k hk => by rw [zf_71 k (by unfold scX at hk; omega) (by unfold scX at hk; omega)]; exact zf_35 k (by unfold scX at hk; omega)⟩
                 refine Eq.trans (b := miS (T ru) (M (28 + i_2)) (M 2 0) qn) ?_ (by rw [daS, if_neg (by assumption), if_neg (by assumption)])
                 rw [zw_35 qn hq, zf_35 _ (by omega), zf_35 2 (by omega)]; rfl)
        · skip
          refine j_aload_n C dX9_day_42 rfl rfl ?_
          refine j_get C dX9_day_43 jf_RX9_51 (wO cX0) rfl ?_
          refine j_iload_n C dX9_day_46 rfl rfl ?_
          refine j_calliv C (c_X0_whereOn _ _ _ _ _ qn rfl hq) dX9_day_47 jm_RX9_177 ⟨_, _, _, _, wO cCo, rfl, rfl⟩ ⟨by decide, by decide, by decide, by decide⟩ rfl (Nat.le_of_ble_eq_true rfl) (fun r z hz => ?_)
          obtain ⟨hr, hz⟩ := hz; have hr := hr.symm; have hz := hz.symm; subst hr; subst hz
          refine hret _ _ _ _ dX9_day_50 rfl ?_
          refine ok_pos ⟨⟨(nI_0le hi_2 (by omega)).1, by rw [hX.1.1]; exact (nI_0le hi_2 (by omega)).2⟩, ⟨(nI_0le hq (by omega)).1, (nI_0le (n := 30) hq (by decide)).2⟩, b_w⟩ ?_
          rw [nI_clamp (show i_2 < 2147483648 by omega), nI_clamp (show qn < 2147483648 by omega)]
          first
            | exact ⟨by rw [daS, if_pos (by assumption)]; exact zw_35 qn hq, fun k hk => zf_35 k (by unfold scX at hk; omega)⟩
            | exact ⟨by rw [daS, if_neg (by assumption), if_pos (by assumption)]; exact zl_35 qn hq, fun k hk => zf_35 k (by unfold scX at hk; omega)⟩
            | (refine ⟨?_, fun k hk => by rw [zf_71 k (by unfold scX at hk; omega) (by unfold scX at hk; omega)]; exact zf_35 k (by unfold scX at hk; omega)⟩
               refine Eq.trans (b := miS (T ru) (M (28 + i_2)) (M 2 0) qn) ?_ (by rw [daS, if_neg (by assumption), if_neg (by assumption)])
               rw [zw_35 qn hq, zf_35 _ (by omega), zf_35 2 (by omega)]; rfl)
      · skip
        refine j_if_ne (tgt := 32) C dX9_day_26 (by decide) (fun c => absurd (by decide) c) (fun _ => ?_)
        refine j_bipush (v := -2) C dX9_day_29 rfl ?_
        refine hret _ _ _ _ dX9_day_31 rfl ?_
        first | exact ⟨(if_neg (fun h => hno_2 h.1)).symm, fkX_r⟩ | exact ⟨(if_neg (fun h => b_q h.2.1)).symm, fkX_r⟩ | exact ⟨(if_neg (fun h => b_w h.2.2)).symm, fkX_r⟩
    · skip
      refine j_if_eq (tgt := 29) C dX9_day_18 (by decide) (fun _ => ?_) (fun c => absurd (by decide) c)
      refine j_bipush (v := -2) C dX9_day_29 rfl ?_
      refine hret _ _ _ _ dX9_day_31 rfl ?_
      first | exact ⟨(if_neg (fun h => hno_2 h.1)).symm, fkX_r⟩ | exact ⟨(if_neg (fun h => b_q h.2.1)).symm, fkX_r⟩ | exact ⟨(if_neg (fun h => b_w h.2.2)).symm, fkX_r⟩
  · skip
    refine j_astoreN (lv' := [(4, _), (0, _), (1, _), (2, _), (3, _)]) C dX9_day_5 (by decide) rfl ?_
    refine j_aloadN C dX9_day_7 rfl ?_
    refine j_ifnullN (tgt := 29) C dX9_day_9 (by decide) ?_
    refine j_bipush (v := -2) C dX9_day_29 rfl ?_
    refine hret _ _ _ _ dX9_day_31 rfl ?_
    first | exact ⟨(if_neg (fun h => hno_2 h.1)).symm, fkX_r⟩ | exact ⟨(if_neg (fun h => b_q h.2.1)).symm, fkX_r⟩ | exact ⟨(if_neg (fun h => b_w h.2.2)).symm, fkX_r⟩
set_option maxHeartbeats 4000000 in
set_option maxRecDepth 100000 in
theorem c_X9_lowest (l : Launch) (g : jG) {S : Type} (wd : S → va_W) (x : S) (u : Int64) (v : Int64) (part : Int32) (A B : Nat) (hu : u = lN A) (hv : v = lN B) (hAB : A ≤ B) (hB : 0 < B) (hB2 : B ≤ 10000000000000000) : Cl l g yX9_lowest cX9_lowest 12 0 0 0 0 wd [.long u, .long v, .int part] x (fun r z => r = frS A B part ∧ z = x) := by
  refine mk_l (by decide +kernel) rfl (fun KK hKl hKg C hin hret => ?_)
  subst hKl; subst hKg
  refine j_lv (lv' := [(0, _), (2, _), (4, _)]) rfl ?_
  subst hu; subst hv
  refine j_lload_n C dX9_lowest_0 rfl rfl ?_
  refine j_lstore (lv' := [(5, _), (0, _), (2, _), (4, _)]) C dX9_lowest_1 (by decide) rfl ?_
  refine j_lload_n C dX9_lowest_3 rfl rfl ?_
  refine j_lstore (lv' := [(7, _), (5, _), (0, _), (2, _), (4, _)]) C dX9_lowest_4 (by decide) rfl ?_
  refine j_iconst (v := 0) C dX9_lowest_6 rfl ?_
  refine j_istore (lv' := [(9, _), (7, _), (5, _), (0, _), (2, _), (4, _)]) C dX9_lowest_7 (by decide) rfl ?_
  have L_9 : ∀ k : Nat, ∀ (i R D : Nat), (R * D + 1) * 2 ≤ 2 ^ k → i + k ≤ 110 → D ≤ R → 0 < R → R ≤ 10000000000000000 → Nat.gcd R D = Nat.gcd A B → J KK wd 0 0 x [(0, .long (lN A)), (2, .long (lN B)), (4, .int part), (5, .long (lN D)), (7, .long (lN R)), (9, .int (nI i))] 9 [] := by
    intro k
    induction k with
    | zero => intro i R D hk hi hle hR hR2 hG; exact absurd hk (by rw [Nat.pow_zero]; omega)
    | succ k ih =>
      intro i R D hk hi hle hR hR2 hG
      have e_i : (nI i).toInt = i := nI_toInt (by omega)
      have hcl : (1000 : Int32).toInt = 1000 := rfl
      refine j_iload C dX9_lowest_9 rfl ?_
      refine j_sipush (v := 1000) C dX9_lowest_11 rfl ?_
      refine j_icmp_ge (tgt := 45) C dX9_lowest_14 (by decide) (fun c_1 => ?_) (fun c_1 => ?_)
      · skip
        exact absurd c_1 (by simp only [Int32.lt_iff_toInt_lt, Int32.le_iff_toInt_le, ← Int32.toInt_inj, Int32.reduceToInt, e_i]; omega)
      · skip
        refine j_lload C dX9_lowest_17 rfl ?_
        refine j_lconst (v := 0) C dX9_lowest_19 rfl ?_
        refine j_lcmp C dX9_lowest_20 ?_
        refine j_if_eq (tgt := 45) C dX9_lowest_21 (by decide) (fun c_2 => ?_) (fun c_2 => ?_)
        · rw [lg_cmp_eq] at c_2
          have hD : D = 0 := (lN_inj0 (by omega)).mp c_2
          subst hD
          rw [Nat.gcd_zero_right] at hG
          refine j_lload C dX9_lowest_45 rfl ?_
          refine j_lconst (v := 0) C dX9_lowest_47 rfl ?_
          refine j_lcmp C dX9_lowest_48 ?_
          refine j_if_ne (tgt := 63) C dX9_lowest_49 (by decide) (fun c_3 => ?_) (fun c_3 => ?_)
          · rw [lg_cmp_eq] at c_3
            refine j_iload C dX9_lowest_63 rfl ?_
            refine j_if_ne (tgt := 72) C dX9_lowest_65 (by decide) (fun c_4 => ?_) (fun c_4 => ?_)
            · skip
              refine j_lload_n C dX9_lowest_72 rfl rfl ?_
              refine j_lload C dX9_lowest_73 rfl ?_
              refine j_ldiv C dX9_lowest_75 (fun h => absurd ((lN_inj0 (by omega)).mp h) (by omega)) ?_
              refine hret _ _ _ _ dX9_lowest_76 ?_
              refine ⟨?_, rfl⟩
              rw [frS, ← hG]
              first
                | (rw [if_pos (by assumption)]; exact pk_lDiv (by omega) (by omega) (by omega))
                | (rw [if_neg (by assumption)]; exact pk_lDiv (by omega) (by omega) (by omega))
            · skip
              refine j_lload_n C dX9_lowest_68 rfl rfl ?_
              refine j_goto (tgt := 73) C dX9_lowest_69 (by decide) ?_
              refine j_lload C dX9_lowest_73 rfl ?_
              refine j_ldiv C dX9_lowest_75 (fun h => absurd ((lN_inj0 (by omega)).mp h) (by omega)) ?_
              refine hret _ _ _ _ dX9_lowest_76 ?_
              refine ⟨?_, rfl⟩
              rw [frS, ← hG]
              first
                | (rw [if_pos (by assumption)]; exact pk_lDiv (by omega) (by omega) (by omega))
                | (rw [if_neg (by assumption)]; exact pk_lDiv (by omega) (by omega) (by omega))
          · rw [lg_cmp_eq] at c_3
            exact absurd ((lN_inj0 (by omega)).mp c_3) (by omega)
        · rw [lg_cmp_eq] at c_2
          have hD : 0 < D := Nat.pos_of_ne_zero (fun h => c_2 ((lN_inj0 (by omega)).mpr h))
          refine j_lload C dX9_lowest_24 rfl ?_
          refine j_lload C dX9_lowest_26 rfl ?_
          refine j_lrem C dX9_lowest_28 (fun h => absurd ((lN_inj0 (by omega)).mp h) (by omega)) ?_
          refine j_lstore (lv' := [(10, _), (0, _), (2, _), (4, _), (5, _), (7, _), (9, _)]) C dX9_lowest_29 (by decide) rfl ?_
          refine j_lload C dX9_lowest_31 rfl ?_
          refine j_lstore (lv' := [(7, _), (10, _), (0, _), (2, _), (4, _), (5, _), (9, _)]) C dX9_lowest_33 (by decide) rfl ?_
          refine j_lload C dX9_lowest_35 rfl ?_
          refine j_lstore (lv' := [(5, _), (7, _), (10, _), (0, _), (2, _), (4, _), (9, _)]) C dX9_lowest_37 (by decide) rfl ?_
          refine j_iinc (lv' := [(9, _), (5, _), (7, _), (10, _), (0, _), (2, _), (4, _)]) (v := nI (i + 1)) C dX9_lowest_39 rfl (j_inc1 i) (by decide) rfl ?_
          refine j_goto (tgt := 9) C dX9_lowest_42 (by decide) ?_
          refine j_lv (lv' := [(0, _), (2, _), (4, _), (5, _), (7, _), (9, _)]) rfl ?_
          rw [pk_lRem (by omega) hD (by omega)]
          exact ih (i + 1) D (R % D) (eu_step hk hD hle) (by omega) (Nat.le_of_lt (Nat.mod_lt _ hD)) hD (by omega) (by rw [← hG, Nat.gcd_comm D, ← Nat.gcd_rec, Nat.gcd_comm])
  refine j_lv (lv' := [(0, _), (2, _), (4, _), (5, _), (7, _), (9, _)]) rfl ?_
  exact L_9 110 0 B A (Nat.le_trans (Nat.mul_le_mul (Nat.add_le_add_right (Nat.mul_le_mul hB2 (Nat.le_trans hAB hB2)) 1) (Nat.le_refl 2)) pow2_107) (by omega) hAB hB hB2 (Nat.gcd_comm B A)
set_option maxHeartbeats 4000000 in
set_option maxRecDepth 100000 in
theorem c_X9_found (l : Launch) (g : jG) (a : Nat → Nat) (M : (Nat → Nat → Int32)) (p : Int32) (q : Int32) (w : Int32) (n t ru : Nat) (T : Nat → Nat → List Int32) (hX : inX M n t ru T) : Cl l g yX9_found cX9_found 10 5 117 0 0 (cW g a) [.ref (a 0), .int p, .int q, .int w] M (fun r z => r = (if (0 ≤ p ∧ p < M 0 1) ∧ (0 ≤ q ∧ q < 9) ∧ (0 ≤ w ∧ w < 2) then fdS (lkS (T ru) (M (28 + p.toNatClampNeg)) (M 2 0) (M 2 0) (M 2 1) (M 2 2)) q.toNatClampNeg w else -4611686018427387904) ∧ fkX M z) := by
  refine mk_l (by decide +kernel) rfl (fun KK hKl hKg C hin hret => ?_)
  subst hKl; subst hKg
  refine j_lv (lv' := [(0, _), (1, _), (2, _), (3, _)]) rfl ?_
  have hn6 := hX.1.2
  refine j_aload_n C dX9_found_0 rfl rfl ?_
  refine j_iload_n C dX9_found_1 rfl rfl ?_
  refine j_callqv C (c_X9_gloveAt _ _ _ _ _ n hX.1.1 hn6) dX9_found_2 jm_RX9_110 ⟨_, _, _, _, wO cX0, rfl, rfl⟩ ⟨by decide, by decide, by decide, by decide⟩ rfl (Nat.le_of_ble_eq_true rfl) (fun r z hz => ?_)
  obtain ⟨hb, hz⟩ := hz; have hz := hz.symm; subst hz
  rcases hb with ⟨i_2, hi_2, he_2, rfl⟩ | ⟨hno_2, rfl⟩
  · skip
    refine j_astore (lv' := [(4, _), (0, _), (1, _), (2, _), (3, _)]) C dX9_found_5 (by decide) rfl ?_
    refine j_aload C dX9_found_7 rfl ?_
    refine j_ifnull C dX9_found_9 ?_
    refine j_iload_n C dX9_found_12 rfl rfl ?_
    refine j_bipush (v := 9) C dX9_found_13 rfl ?_
    refine j_callis C (c_X9_isIn _ _ _ _ _ _ ) dX9_found_15 jm_RX9_154 ⟨by decide, by decide, by decide, by decide⟩ rfl (Nat.le_of_ble_eq_true rfl) (fun r z hz => ?_)
    obtain ⟨hb, hz⟩ := hz; have hz := hz.symm; subst hz
    rcases hb with ⟨rfl, b_q⟩ | ⟨rfl, b_q⟩
    · skip
      obtain ⟨qn, hq, rfl⟩ := in_of (B := 9) b_q rfl
      subst he_2
      refine j_if_eq (tgt := 29) C dX9_found_18 (by decide) (fun c => absurd c (by decide)) (fun _ => ?_)
      refine j_iload_n C dX9_found_21 rfl rfl ?_
      refine j_iconst (v := 2) C dX9_found_22 rfl ?_
      refine j_callis C (c_X9_isIn _ _ _ _ _ _ ) dX9_found_23 jm_RX9_154 ⟨by decide, by decide, by decide, by decide⟩ rfl (Nat.le_of_ble_eq_true rfl) (fun r z hz => ?_)
      obtain ⟨hb, hz⟩ := hz; have hz := hz.symm; subst hz
      rcases hb with ⟨rfl, b_w⟩ | ⟨rfl, b_w⟩
      · skip
        refine j_if_ne (tgt := 33) C dX9_found_26 (by decide) (fun _ => ?_) (fun c => absurd c (by decide))
        refine j_aload_n C dX9_found_33 rfl rfl ?_
        refine j_aload C dX9_found_34 rfl ?_
        refine j_callvv C (c_X9_follow _ _ _ _ (28 + i_2) (isGl_h (Nat.lt_of_lt_of_le hi_2 hn6)) n t ru T hX) dX9_found_36 jm_RX9_173 ⟨_, _, _, _, wO cX0, rfl, rfl⟩ ⟨by decide, by decide, by decide, by decide⟩ rfl (Nat.le_of_ble_eq_true rfl) (fun z_36 hz_36 => ?_)
        obtain ⟨zf_36, zw_36, zl_36⟩ := hz_36
        refine j_lconst (v := 1) C dX9_found_39 rfl ?_
        refine j_lstore (lv' := [(5, _), (4, _), (0, _), (1, _), (2, _), (3, _)]) C dX9_found_40 (by decide) rfl ?_
        refine j_lconst (v := 1) C dX9_found_42 rfl ?_
        refine j_lstore (lv' := [(7, _), (5, _), (4, _), (0, _), (1, _), (2, _), (3, _)]) C dX9_found_43 (by decide) rfl ?_
        refine j_iconst (v := 0) C dX9_found_45 rfl ?_
        refine j_istore (lv' := [(9, _), (7, _), (5, _), (4, _), (0, _), (1, _), (2, _), (3, _)]) C dX9_found_46 (by decide) rfl ?_
        have L_48 : ∀ k : Nat, ∀ (d : Nat), d ≤ qn → qn < d + k → J KK (cW (kG KK) a) 0 0 z_36 [(0, .ref (a 0)), (1, .int (nI i_2)), (2, .int (nI qn)), (3, .int w), (4, .ref (a (28 + i_2))), (5, .long (lN (100 ^ d))), (7, .long (lN (unS (lkS (T ru) (M (28 + i_2)) (M 2 0) (M 2 0) (M 2 1) (M 2 2)) d))), (9, .int (nI d))] 48 [] := by
          intro k
          induction k with
          | zero => intro d h1 hk; omega
          | succ k ih =>
            intro d h1 hk
            have e_d : (nI d).toInt = d := nI_toInt (by omega); have e_qn : (nI qn).toInt = qn := nI_toInt (by omega)
            have hu := unS_le (lk := (lkS (T ru) (M (28 + i_2)) (M 2 0) (M 2 0) (M 2 1) (M 2 2))) d
            have hp8 := p100 (n := d) (by omega)
            refine j_iload C dX9_found_48 rfl ?_
            refine j_iload_n C dX9_found_50 rfl rfl ?_
            refine j_icmp_ge (tgt := 93) C dX9_found_51 (by decide) (fun c_3 => ?_) (fun c_3 => ?_)
            · skip
              have hd : d = qn := by simp only [Int32.lt_iff_toInt_lt, Int32.le_iff_toInt_le, ← Int32.toInt_inj, Int32.reduceToInt, e_d, e_qn] at c_3; omega
              subst hd
              refine j_lload C dX9_found_93 rfl ?_
              refine j_lload C dX9_found_95 rfl ?_
              refine j_lsub C dX9_found_97 ?_
              refine j_lload C dX9_found_98 rfl ?_
              refine j_iload_n C dX9_found_100 rfl rfl ?_
              refine j_callls C (c_X9_lowest _ _ _ _ _ _ _ (100 ^ d - unS (lkS (T ru) (M (28 + i_2)) (M 2 0) (M 2 0) (M 2 1) (M 2 2)) d) (100 ^ d) (lN_sub hu) rfl (Nat.sub_le _ _) (Nat.pow_pos (by decide)) hp8) dX9_found_101 jm_RX9_191 ⟨by decide, by decide, by decide, by decide⟩ rfl (Nat.le_of_ble_eq_true rfl) (fun r z hz => ?_)
              obtain ⟨hr, hz⟩ := hz; have hr := hr.symm; have hz := hz.symm; subst hr; subst hz
              refine hret _ _ _ _ dX9_found_104 ?_
              refine ok_pos ⟨⟨(nI_0le hi_2 (by omega)).1, by rw [hX.1.1]; exact (nI_0le hi_2 (by omega)).2⟩, ⟨(nI_0le hq (by omega)).1, (nI_0le (n := 9) hq (by decide)).2⟩, b_w⟩ ?_
              rw [nI_clamp (show i_2 < 2147483648 by omega), nI_clamp (show d < 2147483648 by omega)]
              exact ⟨rfl, fun k hk => zf_36 k (by unfold scX at hk; omega)⟩
            · skip
              have hd : d < qn := by simp only [Int32.lt_iff_toInt_lt, Int32.le_iff_toInt_le, ← Int32.toInt_inj, Int32.reduceToInt, e_d, e_qn] at c_3; omega
              refine j_iload C dX9_found_54 rfl ?_
              refine j_bipush (v := 8) C dX9_found_56 rfl ?_
              refine j_icmp_ge (tgt := 93) C dX9_found_58 (by decide) (fun c_4 => ?_) (fun c_4 => ?_)
              · skip
                exact absurd c_4 (nI_ge (show d < 8 by omega) (by decide))
              · skip
                refine j_lload C dX9_found_61 rfl ?_
                refine j_ldc2 C dX9_found_63 jc_RX9_189 ?_
                refine j_lmul C dX9_found_66 ?_
                refine j_lstore (lv' := [(5, _), (0, _), (1, _), (2, _), (3, _), (4, _), (7, _), (9, _)]) C dX9_found_67 (by decide) rfl ?_
                refine j_lload C dX9_found_69 rfl ?_
                refine j_bipush (v := 100) C dX9_found_71 rfl ?_
                refine j_aload_n C dX9_found_73 rfl rfl ?_
                refine j_get C dX9_found_74 jf_RX9_51 (wO cX0) rfl ?_
                refine j_iload C dX9_found_77 rfl ?_
                refine j_calliv C (c_X0_likelyOn _ _ _ _ _ d rfl (by omega)) dX9_found_79 jm_RX9_180 ⟨_, _, _, _, wO cCo, rfl, rfl⟩ ⟨by decide, by decide, by decide, by decide⟩ rfl (Nat.le_of_ble_eq_true rfl) (fun r z hz => ?_)
                obtain ⟨hr, hz⟩ := hz; have hr := hr.symm; have hz := hz.symm; subst hr; subst hz
                refine j_isub C dX9_found_82 ?_
                refine j_i2l C dX9_found_83 ?_
                refine j_lmul C dX9_found_84 ?_
                refine j_lstore (lv' := [(7, _), (5, _), (0, _), (1, _), (2, _), (3, _), (4, _), (9, _)]) C dX9_found_85 (by decide) rfl ?_
                refine j_iinc (lv' := [(9, _), (7, _), (5, _), (0, _), (1, _), (2, _), (3, _), (4, _)]) (v := nI (d + 1)) C dX9_found_87 rfl (j_inc1 d) (by decide) rfl ?_
                refine j_goto (tgt := 48) C dX9_found_90 (by decide) ?_
                refine j_lv (lv' := [(0, _), (1, _), (2, _), (3, _), (4, _), (5, _), (7, _), (9, _)]) rfl ?_
                obtain ⟨j, hj, e⟩ := i32_nat (lkS_in (T := T ru) (r := M (28 + i_2)) (f := M 2 0) (a := M 2 0) (b := M 2 1) (s := M 2 2) (d := d))
                have e2 : lN (100 ^ d) * 100 = lN (100 ^ (d + 1)) := by rw [Nat.pow_succ]; exact lN_mul _ 100
                have e3 : lN (unS (lkS (T ru) (M (28 + i_2)) (M 2 0) (M 2 0) (M 2 1) (M 2 2)) d) * ((100 : Int32) - lkS (T ru) (M (28 + i_2)) (M 2 0) (M 2 0) (M 2 1) (M 2 2) d).toInt64 = lN (unS (lkS (T ru) (M (28 + i_2)) (M 2 0) (M 2 0) (M 2 1) (M 2 2)) (d + 1)) := by
                  rw [unS, e, nI_clamp (by omega), sub100 hj, nI_l (by omega), lN_mul]
                rw [e2, zl_36 d (by omega), e3]
                exact ih (d + 1) (by omega) (by omega)
        refine j_lv (lv' := [(0, _), (1, _), (2, _), (3, _), (4, _), (5, _), (7, _), (9, _)]) rfl ?_
        exact L_48 (qn + 1) 0 (by omega) (by omega)
      · skip
        refine j_if_ne (tgt := 33) C dX9_found_26 (by decide) (fun c => absurd (by decide) c) (fun _ => ?_)
        refine j_ldc2 C dX9_found_29 jc_RX9_187 ?_
        refine hret _ _ _ _ dX9_found_32 ?_
        first | exact ⟨(if_neg (fun h => hno_2 h.1)).symm, fkX_r⟩ | exact ⟨(if_neg (fun h => b_q h.2.1)).symm, fkX_r⟩ | exact ⟨(if_neg (fun h => b_w h.2.2)).symm, fkX_r⟩
    · skip
      refine j_if_eq (tgt := 29) C dX9_found_18 (by decide) (fun _ => ?_) (fun c => absurd (by decide) c)
      refine j_ldc2 C dX9_found_29 jc_RX9_187 ?_
      refine hret _ _ _ _ dX9_found_32 ?_
      first | exact ⟨(if_neg (fun h => hno_2 h.1)).symm, fkX_r⟩ | exact ⟨(if_neg (fun h => b_q h.2.1)).symm, fkX_r⟩ | exact ⟨(if_neg (fun h => b_w h.2.2)).symm, fkX_r⟩
  · skip
    refine j_astoreN (lv' := [(4, _), (0, _), (1, _), (2, _), (3, _)]) C dX9_found_5 (by decide) rfl ?_
    refine j_aloadN C dX9_found_7 rfl ?_
    refine j_ifnullN (tgt := 29) C dX9_found_9 (by decide) ?_
    refine j_ldc2 C dX9_found_29 jc_RX9_187 ?_
    refine hret _ _ _ _ dX9_found_32 ?_
    first | exact ⟨(if_neg (fun h => hno_2 h.1)).symm, fkX_r⟩ | exact ⟨(if_neg (fun h => b_q h.2.1)).symm, fkX_r⟩ | exact ⟨(if_neg (fun h => b_w h.2.2)).symm, fkX_r⟩
set_option maxHeartbeats 4000000 in
set_option maxRecDepth 100000 in
theorem c_X9_parts (l : Launch) (g : jG) (a : Nat → Nat) (M : (Nat → Nat → Int32)) (p : Int32) (q : Int32) (n t ru : Nat) (T : Nat → Nat → List Int32) (hX : inX M n t ru T) : Cl l g yX9_parts cX9_parts 4 6 139 0 0 (cW g a) [.ref (a 0), .int p, .int q] M (fun r z => r = (if (0 ≤ p ∧ p < M 0 1) ∧ (0 ≤ q ∧ q < 31) then paS (lkS (T ru) (M (28 + p.toNatClampNeg)) (M 2 0) (M 2 0) (M 2 1) (M 2 2)) q.toNatClampNeg else -4611686018427387904) ∧ fkX M z) := by
  refine mk_l (by decide +kernel) rfl (fun KK hKl hKg C hin hret => ?_)
  subst hKl; subst hKg
  refine j_lv (lv' := [(0, _), (1, _), (2, _)]) rfl ?_
  have hn6 := hX.1.2
  refine j_aload_n C dX9_parts_0 rfl rfl ?_
  refine j_iload_n C dX9_parts_1 rfl rfl ?_
  refine j_callqv C (c_X9_gloveAt _ _ _ _ _ n hX.1.1 hn6) dX9_parts_2 jm_RX9_110 ⟨_, _, _, _, wO cX0, rfl, rfl⟩ ⟨by decide, by decide, by decide, by decide⟩ rfl (Nat.le_of_ble_eq_true rfl) (fun r z hz => ?_)
  obtain ⟨hb, hz⟩ := hz; have hz := hz.symm; subst hz
  rcases hb with ⟨i_2, hi_2, he_2, rfl⟩ | ⟨hno_2, rfl⟩
  · skip
    refine j_astore_n (lv' := [(3, _), (0, _), (1, _), (2, _)]) C dX9_parts_5 rfl (by decide) rfl ?_
    refine j_aload_n C dX9_parts_6 rfl rfl ?_
    refine j_ifnull C dX9_parts_7 ?_
    refine j_iload_n C dX9_parts_10 rfl rfl ?_
    refine j_bipush (v := 31) C dX9_parts_11 rfl ?_
    refine j_callis C (c_X9_isIn _ _ _ _ _ _ ) dX9_parts_13 jm_RX9_154 ⟨by decide, by decide, by decide, by decide⟩ rfl (Nat.le_of_ble_eq_true rfl) (fun r z hz => ?_)
    obtain ⟨hb, hz⟩ := hz; have hz := hz.symm; subst hz
    rcases hb with ⟨rfl, b_q⟩ | ⟨rfl, b_q⟩
    · skip
      obtain ⟨qn, hq, rfl⟩ := in_of (B := 31) b_q rfl
      subst he_2
      refine j_if_ne (tgt := 23) C dX9_parts_16 (by decide) (fun _ => ?_) (fun c => absurd c (by decide))
      refine j_aload_n C dX9_parts_23 rfl rfl ?_
      refine j_aload_n C dX9_parts_24 rfl rfl ?_
      refine j_iload_n C dX9_parts_25 rfl rfl ?_
      refine j_calllv C (c_X9_partsOf _ _ _ _ (28 + i_2) (isGl_h (Nat.lt_of_lt_of_le hi_2 hn6)) _ n t ru T hX qn rfl (by omega)) dX9_parts_26 jm_RX9_195 ⟨_, _, _, _, wO cX0, rfl, rfl⟩ ⟨by decide, by decide, by decide, by decide⟩ rfl (Nat.le_of_ble_eq_true rfl) (fun r_26 z_26 hz_26 => ?_)
      obtain ⟨hr, zf_26⟩ := hz_26; have hr := hr.symm; subst hr
      refine hret _ _ _ _ dX9_parts_29 ?_
      refine ok_pos ⟨⟨(nI_0le hi_2 (by omega)).1, by rw [hX.1.1]; exact (nI_0le hi_2 (by omega)).2⟩, ⟨(nI_0le hq (by omega)).1, (nI_0le (n := 31) hq (by decide)).2⟩⟩ ?_
      rw [nI_clamp (show i_2 < 2147483648 by omega), nI_clamp (show qn < 2147483648 by omega)]
      exact ⟨rfl, fun k hk => zf_26 k (by unfold scX at hk; omega)⟩
    · skip
      refine j_if_ne (tgt := 23) C dX9_parts_16 (by decide) (fun c => absurd (by decide) c) (fun _ => ?_)
      refine j_ldc2 C dX9_parts_19 jc_RX9_187 ?_
      refine hret _ _ _ _ dX9_parts_22 ?_
      first | exact ⟨(if_neg (fun h => hno_2 h.1)).symm, fkX_r⟩ | exact ⟨(if_neg (fun h => b_q h.2)).symm, fkX_r⟩
  · skip
    refine j_astore_nN (lv' := [(3, _), (0, _), (1, _), (2, _)]) C dX9_parts_5 rfl (by decide) rfl ?_
    refine j_aload_nN C dX9_parts_6 rfl rfl ?_
    refine j_ifnullN (tgt := 19) C dX9_parts_7 (by decide) ?_
    refine j_ldc2 C dX9_parts_19 jc_RX9_187 ?_
    refine hret _ _ _ _ dX9_parts_22 ?_
    first | exact ⟨(if_neg (fun h => hno_2 h.1)).symm, fkX_r⟩ | exact ⟨(if_neg (fun h => b_q h.2)).symm, fkX_r⟩
set_option maxHeartbeats 4000000 in
set_option maxRecDepth 100000 in
theorem c_X9_waiting (l : Launch) (g : jG) (a : Nat → Nat) (M : (Nat → Nat → Int32)) (p : Int32) (q : Int32) (n t ru : Nat) (T : Nat → Nat → List Int32) (hX : inX M n t ru T) : Cl l g yX9_waiting cX9_waiting 9 5 117 0 0 (cW g a) [.ref (a 0), .int p, .int q] M (fun r z => r = (if (0 ≤ p ∧ p < M 0 1) ∧ (0 ≤ q ∧ q < 31) then wtS (lkS (T ru) (M (28 + p.toNatClampNeg)) (M 2 0) (M 2 0) (M 2 1) (M 2 2)) (miS (T ru) (M (28 + p.toNatClampNeg)) (M 2 0)) q.toNatClampNeg else -4611686018427387904) ∧ fkX M z) := by
  refine mk_l (by decide +kernel) rfl (fun KK hKl hKg C hin hret => ?_)
  subst hKl; subst hKg
  refine j_lv (lv' := [(0, _), (1, _), (2, _)]) rfl ?_
  have hn6 := hX.1.2
  refine j_aload_n C dX9_waiting_0 rfl rfl ?_
  refine j_iload_n C dX9_waiting_1 rfl rfl ?_
  refine j_callqv C (c_X9_gloveAt _ _ _ _ _ n hX.1.1 hn6) dX9_waiting_2 jm_RX9_110 ⟨_, _, _, _, wO cX0, rfl, rfl⟩ ⟨by decide, by decide, by decide, by decide⟩ rfl (Nat.le_of_ble_eq_true rfl) (fun r z hz => ?_)
  obtain ⟨hb, hz⟩ := hz; have hz := hz.symm; subst hz
  rcases hb with ⟨i_2, hi_2, he_2, rfl⟩ | ⟨hno_2, rfl⟩
  · skip
    refine j_astore_n (lv' := [(3, _), (0, _), (1, _), (2, _)]) C dX9_waiting_5 rfl (by decide) rfl ?_
    refine j_aload_n C dX9_waiting_6 rfl rfl ?_
    refine j_ifnull C dX9_waiting_7 ?_
    refine j_iload_n C dX9_waiting_10 rfl rfl ?_
    refine j_bipush (v := 31) C dX9_waiting_11 rfl ?_
    refine j_callis C (c_X9_isIn _ _ _ _ _ _ ) dX9_waiting_13 jm_RX9_154 ⟨by decide, by decide, by decide, by decide⟩ rfl (Nat.le_of_ble_eq_true rfl) (fun r z hz => ?_)
    obtain ⟨hb, hz⟩ := hz; have hz := hz.symm; subst hz
    rcases hb with ⟨rfl, b_q⟩ | ⟨rfl, b_q⟩
    · skip
      obtain ⟨qn, hq, rfl⟩ := in_of (B := 31) b_q rfl
      subst he_2
      refine j_if_ne (tgt := 23) C dX9_waiting_16 (by decide) (fun _ => ?_) (fun c => absurd c (by decide))
      refine j_aload_n C dX9_waiting_23 rfl rfl ?_
      refine j_aload_n C dX9_waiting_24 rfl rfl ?_
      refine j_callvv C (c_X9_follow _ _ _ _ (28 + i_2) (isGl_h (Nat.lt_of_lt_of_le hi_2 hn6)) n t ru T hX) dX9_waiting_25 jm_RX9_173 ⟨_, _, _, _, wO cX0, rfl, rfl⟩ ⟨by decide, by decide, by decide, by decide⟩ rfl (Nat.le_of_ble_eq_true rfl) (fun z_25 hz_25 => ?_)
      obtain ⟨zf_25, zw_25, zl_25⟩ := hz_25
      refine j_lconst (v := 0) C dX9_waiting_28 rfl ?_
      refine j_lstore (lv' := [(4, _), (3, _), (0, _), (1, _), (2, _)]) C dX9_waiting_29 (by decide) rfl ?_
      refine j_ldc2 C dX9_waiting_31 jc_RX9_199 ?_
      refine j_lstore (lv' := [(6, _), (4, _), (3, _), (0, _), (1, _), (2, _)]) C dX9_waiting_34 (by decide) rfl ?_
      refine j_iconst (v := 0) C dX9_waiting_36 rfl ?_
      refine j_istore (lv' := [(8, _), (6, _), (4, _), (3, _), (0, _), (1, _), (2, _)]) C dX9_waiting_37 (by decide) rfl ?_
      have L_39 : ∀ k : Nat, ∀ (d : Nat) (M' : Nat → Nat → Int32), d ≤ qn → qn < d + k → (∀ k, k ≠ 24 → k ≠ 25 → M' k = z_25 k) → J KK (cW (kG KK) a) 0 0 M' [(0, .ref (a 0)), (1, .int (nI i_2)), (2, .int (nI qn)), (3, .ref (a (28 + i_2))), (4, .long (wtS (lkS (T ru) (M (28 + i_2)) (M 2 0) (M 2 0) (M 2 1) (M 2 2)) (miS (T ru) (M (28 + i_2)) (M 2 0)) d)), (6, .long (leS 1000000 (lkS (T ru) (M (28 + i_2)) (M 2 0) (M 2 0) (M 2 1) (M 2 2)) d)), (8, .int (nI d))] 39 [] := by
        intro k
        induction k with
        | zero => intro d M' h1 hk hF; omega
        | succ k ih =>
          intro d M' h1 hk hF
          have e_d : (nI d).toInt = d := nI_toInt (by omega); have e_qn : (nI qn).toInt = qn := nI_toInt (by omega)
          have hX2 : inX M' n t ru T := inX_c hX ((hF 0 (by omega) (by omega)).trans (zf_25 0 (by omega))) ((hF 2 (by omega) (by omega)).trans (zf_25 2 (by omega))) (fun k a b => (hF k (by omega) (by omega)).trans (zf_25 k (by omega)))
          refine j_iload C dX9_waiting_39 rfl ?_
          refine j_iload_n C dX9_waiting_41 rfl rfl ?_
          refine j_icmp_ge (tgt := 96) C dX9_waiting_42 (by decide) (fun c_2 => ?_) (fun c_2 => ?_)
          · skip
            have hd : d = qn := by simp only [Int32.lt_iff_toInt_lt, Int32.le_iff_toInt_le, ← Int32.toInt_inj, Int32.reduceToInt, e_d, e_qn] at c_2; omega
            subst hd
            refine j_lload C dX9_waiting_96 rfl ?_
            refine hret _ _ _ _ dX9_waiting_98 ?_
            refine ok_pos ⟨⟨(nI_0le hi_2 (by omega)).1, by rw [hX.1.1]; exact (nI_0le hi_2 (by omega)).2⟩, ⟨(nI_0le hq (by omega)).1, (nI_0le (n := 31) hq (by decide)).2⟩⟩ ?_
            rw [nI_clamp (show i_2 < 2147483648 by omega), nI_clamp (show d < 2147483648 by omega)]
            exact ⟨rfl, fun k hk => (hF k (by unfold scX at hk; omega) (by unfold scX at hk; omega)).trans (zf_25 k (by unfold scX at hk; omega))⟩
          · skip
            have hd : d < qn := by simp only [Int32.lt_iff_toInt_lt, Int32.le_iff_toInt_le, ← Int32.toInt_inj, Int32.reduceToInt, e_d, e_qn] at c_2; omega
            refine j_iload C dX9_waiting_45 rfl ?_
            refine j_bipush (v := 30) C dX9_waiting_47 rfl ?_
            refine j_icmp_ge (tgt := 96) C dX9_waiting_49 (by decide) (fun c_3 => ?_) (fun c_3 => ?_)
            · skip
              exact absurd c_3 (nI_ge (show d < 30 by omega) (by decide))
            · skip
              refine j_lload C dX9_waiting_52 rfl ?_
              refine j_lload C dX9_waiting_54 rfl ?_
              refine j_aload_n C dX9_waiting_56 rfl rfl ?_
              refine j_iload C dX9_waiting_57 rfl ?_
              refine j_aload_n C dX9_waiting_59 rfl rfl ?_
              refine j_calliv C (c_X9_mindsOn _ _ _ _ _ (28 + i_2) (isGl_h (Nat.lt_of_lt_of_le hi_2 hn6)) n t ru T hX2 d rfl (by omega)) dX9_waiting_60 jm_RX9_183 ⟨_, _, _, _, wO cX0, rfl, rfl⟩ ⟨by decide, by decide, by decide, by decide⟩ rfl (Nat.le_of_ble_eq_true rfl) (fun r_60 z_60 hz_60 => ?_)
              obtain ⟨hr, zf_60⟩ := hz_60
              have hr2 : r_60 = miS (T ru) (M (28 + i_2)) (M 2 0) d := by
                rw [hr, hF 21 (by decide) (by decide), zw_25 d (by omega), hF (28 + i_2) (by omega) (by omega), hF 2 (by decide) (by decide), zf_25 (28 + i_2) (by omega), zf_25 2 (by omega)]; rfl
              clear hr; have hr2 := hr2.symm; subst hr2
              refine j_i2l C dX9_waiting_63 ?_
              refine j_lmul C dX9_waiting_64 ?_
              refine j_ladd C dX9_waiting_65 ?_
              refine j_lstore (lv' := [(4, _), (0, _), (1, _), (2, _), (3, _), (6, _), (8, _)]) C dX9_waiting_66 (by decide) rfl ?_
              refine j_lload C dX9_waiting_68 rfl ?_
              refine j_bipush (v := 100) C dX9_waiting_70 rfl ?_
              refine j_aload_n C dX9_waiting_72 rfl rfl ?_
              refine j_get C dX9_waiting_73 jf_RX9_51 (wO cX0) rfl ?_
              refine j_iload C dX9_waiting_76 rfl ?_
              refine j_calliv C (c_X0_likelyOn _ _ _ _ _ d rfl (by omega)) dX9_waiting_78 jm_RX9_180 ⟨_, _, _, _, wO cCo, rfl, rfl⟩ ⟨by decide, by decide, by decide, by decide⟩ rfl (Nat.le_of_ble_eq_true rfl) (fun r z hz => ?_)
              obtain ⟨hr, hz⟩ := hz; have hr := hr.symm; have hz := hz.symm; subst hr; subst hz
              refine j_isub C dX9_waiting_81 ?_
              refine j_i2l C dX9_waiting_82 ?_
              refine j_lmul C dX9_waiting_83 ?_
              refine j_ldc2 C dX9_waiting_84 jc_RX9_189 ?_
              refine j_ldiv C dX9_waiting_87 i64_100 ?_
              refine j_lstore (lv' := [(6, _), (4, _), (0, _), (1, _), (2, _), (3, _), (8, _)]) C dX9_waiting_88 (by decide) rfl ?_
              refine j_iinc (lv' := [(8, _), (6, _), (4, _), (0, _), (1, _), (2, _), (3, _)]) (v := nI (d + 1)) C dX9_waiting_90 rfl (j_inc1 d) (by decide) rfl ?_
              refine j_goto (tgt := 39) C dX9_waiting_93 (by decide) ?_
              refine j_lv (lv' := [(0, _), (1, _), (2, _), (3, _), (4, _), (6, _), (8, _)]) rfl ?_
              have e2 : z_60 23 d = lkS (T ru) (M (28 + i_2)) (M 2 0) (M 2 0) (M 2 1) (M 2 2) d := by rw [zf_60 23 (by decide) (by decide), hF 23 (by decide) (by decide), zl_25 d (by omega)]
              rw [e2]
              exact ih (d + 1) z_60 (by omega) (by omega) (fun k a b => (zf_60 k a b).trans (hF k a b))
      refine j_lv (lv' := [(0, _), (1, _), (2, _), (3, _), (4, _), (6, _), (8, _)]) rfl ?_
      exact L_39 (qn + 1) 0 _ (by omega) (by omega) (fun _ _ _ => rfl)
    · skip
      refine j_if_ne (tgt := 23) C dX9_waiting_16 (by decide) (fun c => absurd (by decide) c) (fun _ => ?_)
      refine j_ldc2 C dX9_waiting_19 jc_RX9_187 ?_
      refine hret _ _ _ _ dX9_waiting_22 ?_
      first | exact ⟨(if_neg (fun h => hno_2 h.1)).symm, fkX_r⟩ | exact ⟨(if_neg (fun h => b_q h.2)).symm, fkX_r⟩
  · skip
    refine j_astore_nN (lv' := [(3, _), (0, _), (1, _), (2, _)]) C dX9_waiting_5 rfl (by decide) rfl ?_
    refine j_aload_nN C dX9_waiting_6 rfl rfl ?_
    refine j_ifnullN (tgt := 19) C dX9_waiting_7 (by decide) ?_
    refine j_ldc2 C dX9_waiting_19 jc_RX9_187 ?_
    refine hret _ _ _ _ dX9_waiting_22 ?_
    first | exact ⟨(if_neg (fun h => hno_2 h.1)).symm, fkX_r⟩ | exact ⟨(if_neg (fun h => b_q h.2)).symm, fkX_r⟩
set_option maxHeartbeats 4000000 in
set_option maxRecDepth 100000 in
theorem c_X9_best (l : Launch) (g : jG) (a : Nat → Nat) (M : (Nat → Nat → Int32)) (p : Int32) (w : Int32) (n t ru : Nat) (T : Nat → Nat → List Int32) (hX : inX M n t ru T) : Ci l g yX9_best cX9_best 6 .int 5 117 0 0 (cW g a) [.ref (a 0), .int p, .int w] M (fun r z => r = (if (0 ≤ p ∧ p < M 0 1) ∧ (0 ≤ w ∧ w < 2) then (if w = 0 then nI (baS (lkS (T ru) (M (28 + p.toNatClampNeg)) (M 2 0) (M 2 0) (M 2 1) (M 2 2)) 30) else (lkS (T ru) (M (28 + p.toNatClampNeg)) (M 2 0) (M 2 0) (M 2 1) (M 2 2)) (baS (lkS (T ru) (M (28 + p.toNatClampNeg)) (M 2 0) (M 2 0) (M 2 1) (M 2 2)) 30)) else -2) ∧ fkX M z) := by
  refine mk_i (by decide +kernel) rfl (fun KK hKl hKg C hin hret => ?_)
  subst hKl; subst hKg
  refine j_lv (lv' := [(0, _), (1, _), (2, _)]) rfl ?_
  have hn6 := hX.1.2
  refine j_aload_n C dX9_best_0 rfl rfl ?_
  refine j_iload_n C dX9_best_1 rfl rfl ?_
  refine j_callqv C (c_X9_gloveAt _ _ _ _ _ n hX.1.1 hn6) dX9_best_2 jm_RX9_110 ⟨_, _, _, _, wO cX0, rfl, rfl⟩ ⟨by decide, by decide, by decide, by decide⟩ rfl (Nat.le_of_ble_eq_true rfl) (fun r z hz => ?_)
  obtain ⟨hb, hz⟩ := hz; have hz := hz.symm; subst hz
  rcases hb with ⟨i_2, hi_2, he_2, rfl⟩ | ⟨hno_2, rfl⟩
  · skip
    refine j_astore_n (lv' := [(3, _), (0, _), (1, _), (2, _)]) C dX9_best_5 rfl (by decide) rfl ?_
    refine j_aload_n C dX9_best_6 rfl rfl ?_
    refine j_ifnull C dX9_best_7 ?_
    refine j_iload_n C dX9_best_10 rfl rfl ?_
    refine j_iconst (v := 2) C dX9_best_11 rfl ?_
    refine j_callis C (c_X9_isIn _ _ _ _ _ _ ) dX9_best_12 jm_RX9_154 ⟨by decide, by decide, by decide, by decide⟩ rfl (Nat.le_of_ble_eq_true rfl) (fun r z hz => ?_)
    obtain ⟨hb, hz⟩ := hz; have hz := hz.symm; subst hz
    rcases hb with ⟨rfl, b_w⟩ | ⟨rfl, b_w⟩
    · skip
      subst he_2
      refine j_if_ne (tgt := 21) C dX9_best_15 (by decide) (fun _ => ?_) (fun c => absurd c (by decide))
      refine j_aload_n C dX9_best_21 rfl rfl ?_
      refine j_aload_n C dX9_best_22 rfl rfl ?_
      refine j_callvv C (c_X9_follow _ _ _ _ (28 + i_2) (isGl_h (Nat.lt_of_lt_of_le hi_2 hn6)) n t ru T hX) dX9_best_23 jm_RX9_173 ⟨_, _, _, _, wO cX0, rfl, rfl⟩ ⟨by decide, by decide, by decide, by decide⟩ rfl (Nat.le_of_ble_eq_true rfl) (fun z_23 hz_23 => ?_)
      obtain ⟨zf_23, zw_23, zl_23⟩ := hz_23
      refine j_iconst (v := 0) C dX9_best_26 rfl ?_
      refine j_istore (lv' := [(4, _), (3, _), (0, _), (1, _), (2, _)]) C dX9_best_27 (by decide) rfl ?_
      refine j_iconst (v := 1) C dX9_best_29 rfl ?_
      refine j_istore (lv' := [(5, _), (4, _), (3, _), (0, _), (1, _), (2, _)]) C dX9_best_30 (by decide) rfl ?_
      have L_32 : ∀ k : Nat, ∀ (d : Nat), 1 ≤ d → d ≤ 30 → 30 < d + k → (baS (lkS (T ru) (M (28 + i_2)) (M 2 0) (M 2 0) (M 2 1) (M 2 2)) d < 30) → J KK (cW (kG KK) a) 0 0 z_23 [(0, .ref (a 0)), (1, .int (nI i_2)), (2, .int w), (3, .ref (a (28 + i_2))), (4, .int (nI (baS (lkS (T ru) (M (28 + i_2)) (M 2 0) (M 2 0) (M 2 1) (M 2 2)) d))), (5, .int (nI d))] 32 [] := by
        intro k
        induction k with
        | zero => intro d h0 h1 hk hba; omega
        | succ k ih =>
          intro d h0 h1 hk hba
          have e_d : (nI d).toInt = d := nI_toInt (by omega)
          refine j_iload C dX9_best_32 rfl ?_
          refine j_bipush (v := 30) C dX9_best_34 rfl ?_
          refine j_icmp_ge (tgt := 70) C dX9_best_36 (by decide) (fun c_2 => ?_) (fun c_2 => ?_)
          · skip
            have hd : d = 30 := by simp only [Int32.lt_iff_toInt_lt, Int32.le_iff_toInt_le, ← Int32.toInt_inj, Int32.reduceToInt, e_d] at c_2; omega
            subst hd
            refine j_iload_n C dX9_best_70 rfl rfl ?_
            refine j_if_ne (tgt := 79) C dX9_best_71 (by decide) (fun c_3 => ?_) (fun c_3 => ?_)
            · skip
              refine j_aload_n C dX9_best_79 rfl rfl ?_
              refine j_get C dX9_best_80 jf_RX9_51 (wO cX0) rfl ?_
              refine j_iload C dX9_best_83 rfl ?_
              refine j_calliv C (c_X0_likelyOn _ _ _ _ _ _ rfl hba) dX9_best_85 jm_RX9_180 ⟨_, _, _, _, wO cCo, rfl, rfl⟩ ⟨by decide, by decide, by decide, by decide⟩ rfl (Nat.le_of_ble_eq_true rfl) (fun r z hz => ?_)
              obtain ⟨hr, hz⟩ := hz; have hr := hr.symm; have hz := hz.symm; subst hr; subst hz
              refine hret _ _ _ _ dX9_best_88 rfl ?_
              refine ok_pos ⟨⟨(nI_0le hi_2 (by omega)).1, by rw [hX.1.1]; exact (nI_0le hi_2 (by omega)).2⟩, b_w⟩ ?_
              rw [nI_clamp (show i_2 < 2147483648 by omega)]
              first
                | exact ⟨(if_pos (by assumption)).symm, fun k hk => zf_23 k (by unfold scX at hk; omega)⟩
                | exact ⟨by rw [if_neg (by assumption)]; exact zl_23 _ hba, fun k hk => zf_23 k (by unfold scX at hk; omega)⟩
            · skip
              refine j_iload C dX9_best_74 rfl ?_
              refine j_goto (tgt := 88) C dX9_best_76 (by decide) ?_
              refine hret _ _ _ _ dX9_best_88 rfl ?_
              refine ok_pos ⟨⟨(nI_0le hi_2 (by omega)).1, by rw [hX.1.1]; exact (nI_0le hi_2 (by omega)).2⟩, b_w⟩ ?_
              rw [nI_clamp (show i_2 < 2147483648 by omega)]
              first
                | exact ⟨(if_pos (by assumption)).symm, fun k hk => zf_23 k (by unfold scX at hk; omega)⟩
                | exact ⟨by rw [if_neg (by assumption)]; exact zl_23 _ hba, fun k hk => zf_23 k (by unfold scX at hk; omega)⟩
          · skip
            have hd : d < 30 := by simp only [Int32.lt_iff_toInt_lt, Int32.le_iff_toInt_le, ← Int32.toInt_inj, Int32.reduceToInt, e_d] at c_2; omega
            refine j_aload_n C dX9_best_39 rfl rfl ?_
            refine j_get C dX9_best_40 jf_RX9_51 (wO cX0) rfl ?_
            refine j_iload C dX9_best_43 rfl ?_
            refine j_calliv C (c_X0_likelyOn _ _ _ _ _ d rfl hd) dX9_best_45 jm_RX9_180 ⟨_, _, _, _, wO cCo, rfl, rfl⟩ ⟨by decide, by decide, by decide, by decide⟩ rfl (Nat.le_of_ble_eq_true rfl) (fun r z hz => ?_)
            obtain ⟨hr, hz⟩ := hz; have hr := hr.symm; have hz := hz.symm; subst hr; subst hz
            refine j_aload_n C dX9_best_48 rfl rfl ?_
            refine j_get C dX9_best_49 jf_RX9_51 (wO cX0) rfl ?_
            refine j_iload C dX9_best_52 rfl ?_
            refine j_calliv C (c_X0_likelyOn _ _ _ _ _ _ rfl hba) dX9_best_54 jm_RX9_180 ⟨_, _, _, _, wO cCo, rfl, rfl⟩ ⟨by decide, by decide, by decide, by decide⟩ rfl (Nat.le_of_ble_eq_true rfl) (fun r z hz => ?_)
            obtain ⟨hr, hz⟩ := hz; have hr := hr.symm; have hz := hz.symm; subst hr; subst hz
            refine j_icmp_le (tgt := 64) C dX9_best_57 (by decide) (fun c_4 => ?_) (fun c_4 => ?_)
            · skip
              have hcc : ¬ (lkS (T ru) (M (28 + i_2)) (M 2 0) (M 2 0) (M 2 1) (M 2 2)) (baS (lkS (T ru) (M (28 + i_2)) (M 2 0) (M 2 0) (M 2 1) (M 2 2)) d) < (lkS (T ru) (M (28 + i_2)) (M 2 0) (M 2 0) (M 2 1) (M 2 2)) d := by rw [zl_23 d hd, zl_23 _ hba] at c_4; simp only [Int32.lt_iff_toInt_lt, Int32.le_iff_toInt_le, ← Int32.toInt_inj, Int32.reduceToInt] at c_4 ⊢; omega
              refine j_iinc (lv' := [(5, _), (0, _), (1, _), (2, _), (3, _), (4, _)]) (v := nI (d + 1)) C dX9_best_64 rfl (j_inc1 d) (by decide) rfl ?_
              refine j_goto (tgt := 32) C dX9_best_67 (by decide) ?_
              refine j_lv (lv' := [(0, _), (1, _), (2, _), (3, _), (4, _), (5, _)]) rfl ?_
              first
                | (have e : baS (lkS (T ru) (M (28 + i_2)) (M 2 0) (M 2 0) (M 2 1) (M 2 2)) (d + 1) = d := by rw [baS, if_pos hcc]
                   have h9 := ih (d + 1) (by omega) (by omega) (by omega) (by rw [e]; exact hd)
                   rw [e] at h9; exact h9)
                | (have e : baS (lkS (T ru) (M (28 + i_2)) (M 2 0) (M 2 0) (M 2 1) (M 2 2)) (d + 1) = baS (lkS (T ru) (M (28 + i_2)) (M 2 0) (M 2 0) (M 2 1) (M 2 2)) d := by rw [baS, if_neg hcc]
                   have h9 := ih (d + 1) (by omega) (by omega) (by omega) (by rw [e]; exact hba)
                   rw [e] at h9; exact h9)
            · skip
              have hcc : (lkS (T ru) (M (28 + i_2)) (M 2 0) (M 2 0) (M 2 1) (M 2 2)) (baS (lkS (T ru) (M (28 + i_2)) (M 2 0) (M 2 0) (M 2 1) (M 2 2)) d) < (lkS (T ru) (M (28 + i_2)) (M 2 0) (M 2 0) (M 2 1) (M 2 2)) d := by rw [zl_23 d hd, zl_23 _ hba] at c_4; simp only [Int32.lt_iff_toInt_lt, Int32.le_iff_toInt_le, ← Int32.toInt_inj, Int32.reduceToInt] at c_4 ⊢; omega
              refine j_iload C dX9_best_60 rfl ?_
              refine j_istore (lv' := [(4, _), (0, _), (1, _), (2, _), (3, _), (5, _)]) C dX9_best_62 (by decide) rfl ?_
              refine j_iinc (lv' := [(5, _), (4, _), (0, _), (1, _), (2, _), (3, _)]) (v := nI (d + 1)) C dX9_best_64 rfl (j_inc1 d) (by decide) rfl ?_
              refine j_goto (tgt := 32) C dX9_best_67 (by decide) ?_
              refine j_lv (lv' := [(0, _), (1, _), (2, _), (3, _), (4, _), (5, _)]) rfl ?_
              first
                | (have e : baS (lkS (T ru) (M (28 + i_2)) (M 2 0) (M 2 0) (M 2 1) (M 2 2)) (d + 1) = d := by rw [baS, if_pos hcc]
                   have h9 := ih (d + 1) (by omega) (by omega) (by omega) (by rw [e]; exact hd)
                   rw [e] at h9; exact h9)
                | (have e : baS (lkS (T ru) (M (28 + i_2)) (M 2 0) (M 2 0) (M 2 1) (M 2 2)) (d + 1) = baS (lkS (T ru) (M (28 + i_2)) (M 2 0) (M 2 0) (M 2 1) (M 2 2)) d := by rw [baS, if_neg hcc]
                   have h9 := ih (d + 1) (by omega) (by omega) (by omega) (by rw [e]; exact hba)
                   rw [e] at h9; exact h9)
      refine j_lv (lv' := [(0, _), (1, _), (2, _), (3, _), (4, _), (5, _)]) rfl ?_
      have e1 : baS (lkS (T ru) (M (28 + i_2)) (M 2 0) (M 2 0) (M 2 1) (M 2 2)) 1 = 0 := by simp [baS]
      have h9 := L_32 30 1 (by omega) (by omega) (by omega) (by rw [e1]; decide)
      rw [e1] at h9; exact h9
    · skip
      refine j_if_ne (tgt := 21) C dX9_best_15 (by decide) (fun c => absurd (by decide) c) (fun _ => ?_)
      refine j_bipush (v := -2) C dX9_best_18 rfl ?_
      refine hret _ _ _ _ dX9_best_20 rfl ?_
      first | exact ⟨(if_neg (fun h => hno_2 h.1)).symm, fkX_r⟩ | exact ⟨(if_neg (fun h => b_w h.2)).symm, fkX_r⟩
  · skip
    refine j_astore_nN (lv' := [(3, _), (0, _), (1, _), (2, _)]) C dX9_best_5 rfl (by decide) rfl ?_
    refine j_aload_nN C dX9_best_6 rfl rfl ?_
    refine j_ifnullN (tgt := 18) C dX9_best_7 (by decide) ?_
    refine j_bipush (v := -2) C dX9_best_18 rfl ?_
    refine hret _ _ _ _ dX9_best_20 rfl ?_
    first | exact ⟨(if_neg (fun h => hno_2 h.1)).symm, fkX_r⟩ | exact ⟨(if_neg (fun h => b_w h.2)).symm, fkX_r⟩
set_option maxHeartbeats 4000000 in
set_option maxRecDepth 100000 in
theorem c_X9_giveUp (l : Launch) (g : jG) (a : Nat → Nat) (M : (Nat → Nat → Int32)) (p : Int32) (q : Int32) (n t ru : Nat) (T : Nat → Nat → List Int32) (hX : inX M n t ru T) : Ci l g yX9_giveUp cX9_giveUp 5 .int 5 117 0 0 (cW g a) [.ref (a 0), .int p, .int q] M (fun r z => r = (if (0 ≤ p ∧ p < M 0 1) ∧ (1 ≤ q ∧ q ≤ 100) then nI (giS (lkS (T ru) (M (28 + p.toNatClampNeg)) (M 2 0) (M 2 0) (M 2 1) (M 2 2)) q 30) else -2) ∧ fkX M z) := by
  refine mk_i (by decide +kernel) rfl (fun KK hKl hKg C hin hret => ?_)
  subst hKl; subst hKg
  refine j_lv (lv' := [(0, _), (1, _), (2, _)]) rfl ?_
  have hn6 := hX.1.2
  refine j_aload_n C dX9_giveUp_0 rfl rfl ?_
  refine j_iload_n C dX9_giveUp_1 rfl rfl ?_
  refine j_callqv C (c_X9_gloveAt _ _ _ _ _ n hX.1.1 hn6) dX9_giveUp_2 jm_RX9_110 ⟨_, _, _, _, wO cX0, rfl, rfl⟩ ⟨by decide, by decide, by decide, by decide⟩ rfl (Nat.le_of_ble_eq_true rfl) (fun r z hz => ?_)
  obtain ⟨hb, hz⟩ := hz; have hz := hz.symm; subst hz
  rcases hb with ⟨i_2, hi_2, he_2, rfl⟩ | ⟨hno_2, rfl⟩
  · skip
    subst he_2
    refine j_astore_n (lv' := [(3, _), (0, _), (1, _), (2, _)]) C dX9_giveUp_5 rfl (by decide) rfl ?_
    refine j_aload_n C dX9_giveUp_6 rfl rfl ?_
    refine j_ifnull C dX9_giveUp_7 ?_
    refine j_iload_n C dX9_giveUp_10 rfl rfl ?_
    refine j_iconst (v := 1) C dX9_giveUp_11 rfl ?_
    refine j_icmp_lt (tgt := 21) C dX9_giveUp_12 (by decide) (fun b_q => ?_) (fun b_q => ?_)
    · skip
      refine j_bipush (v := -2) C dX9_giveUp_21 rfl ?_
      refine hret _ _ _ _ dX9_giveUp_23 rfl ?_
      first | exact ⟨(if_neg (fun h => hno_2 h.1)).symm, fkX_r⟩ | exact ⟨(if_neg (fun h => by have := h.2; simp only [Int32.lt_iff_toInt_lt, Int32.le_iff_toInt_le, ← Int32.toInt_inj, Int32.reduceToInt] at *; omega)).symm, fkX_r⟩
    · skip
      refine j_iload_n C dX9_giveUp_15 rfl rfl ?_
      refine j_bipush (v := 100) C dX9_giveUp_16 rfl ?_
      refine j_icmp_le (tgt := 24) C dX9_giveUp_18 (by decide) (fun b_w => ?_) (fun b_w => ?_)
      · skip
        refine j_aload_n C dX9_giveUp_24 rfl rfl ?_
        refine j_aload_n C dX9_giveUp_25 rfl rfl ?_
        refine j_callvv C (c_X9_follow _ _ _ _ (28 + i_2) (isGl_h (Nat.lt_of_lt_of_le hi_2 hn6)) n t ru T hX) dX9_giveUp_26 jm_RX9_173 ⟨_, _, _, _, wO cX0, rfl, rfl⟩ ⟨by decide, by decide, by decide, by decide⟩ rfl (Nat.le_of_ble_eq_true rfl) (fun z_26 hz_26 => ?_)
        obtain ⟨zf_26, zw_26, zl_26⟩ := hz_26
        refine j_bipush (v := 30) C dX9_giveUp_29 rfl ?_
        refine j_istore (lv' := [(4, _), (3, _), (0, _), (1, _), (2, _)]) C dX9_giveUp_31 (by decide) rfl ?_
        have L_33 : ∀ k : Nat, ∀ (d : Nat), d ≤ 30 → d < k → (giS (lkS (T ru) (M (28 + i_2)) (M 2 0) (M 2 0) (M 2 1) (M 2 2)) q 30 = giS (lkS (T ru) (M (28 + i_2)) (M 2 0) (M 2 0) (M 2 1) (M 2 2)) q d) → J KK (cW (kG KK) a) 0 0 z_26 [(0, .ref (a 0)), (1, .int (nI i_2)), (2, .int q), (3, .ref (a (28 + i_2))), (4, .int (nI d))] 33 [] := by
          intro k
          induction k with
          | zero => intro d h1 hk hg; omega
          | succ k ih =>
            intro d h1 hk hg
            have e_d : (nI d).toInt = d := nI_toInt (by omega)
            refine j_iload C dX9_giveUp_33 rfl ?_
            refine j_if_le (tgt := 59) C dX9_giveUp_35 (by decide) (fun c_3 => ?_) (fun c_3 => ?_)
            · skip
              have hd : d = 0 := by simp only [Int32.lt_iff_toInt_lt, Int32.le_iff_toInt_le, ← Int32.toInt_inj, Int32.reduceToInt, e_d] at c_3; omega
              subst hd
              refine j_iload C dX9_giveUp_59 rfl ?_
              refine hret _ _ _ _ dX9_giveUp_61 rfl ?_
              refine ok_pos ⟨⟨(nI_0le hi_2 (by omega)).1, by rw [hX.1.1]; exact (nI_0le hi_2 (by omega)).2⟩, (by simp only [Int32.lt_iff_toInt_lt, Int32.le_iff_toInt_le, ← Int32.toInt_inj, Int32.reduceToInt] at b_q b_w ⊢; omega)⟩ ?_
              rw [nI_clamp (show i_2 < 2147483648 by omega)]
              first
                | exact ⟨by rw [hg]; rfl, fun k hk => zf_26 k (by unfold scX at hk; omega)⟩
                | (refine ⟨?_, fun k hk => zf_26 k (by unfold scX at hk; omega)⟩
                   obtain ⟨d9, rfl⟩ : ∃ d9, d = d9 + 1 := ⟨d - 1, by omega⟩
                   rw [hg, giS, if_pos]
                   rw [Nat.add_sub_cancel, zl_26 d9 (by omega)] at c_50
                   simp only [Int32.lt_iff_toInt_lt, Int32.le_iff_toInt_le, ← Int32.toInt_inj, Int32.reduceToInt] at c_50 ⊢; omega)
            · skip
              have hd : 1 ≤ d := by simp only [Int32.lt_iff_toInt_lt, Int32.le_iff_toInt_le, ← Int32.toInt_inj, Int32.reduceToInt, e_d] at c_3; omega
              refine j_aload_n C dX9_giveUp_38 rfl rfl ?_
              refine j_get C dX9_giveUp_39 jf_RX9_51 (wO cX0) rfl ?_
              refine j_iload C dX9_giveUp_42 rfl ?_
              refine j_iconst (v := 1) C dX9_giveUp_44 rfl ?_
              refine j_isub C dX9_giveUp_45 ?_
              refine j_calliv C (c_X0_likelyOn _ _ _ _ _ (d - 1) (pk_sub hd) (by omega)) dX9_giveUp_46 jm_RX9_180 ⟨_, _, _, _, wO cCo, rfl, rfl⟩ ⟨by decide, by decide, by decide, by decide⟩ rfl (Nat.le_of_ble_eq_true rfl) (fun r z hz => ?_)
              obtain ⟨hr, hz⟩ := hz; have hr := hr.symm; have hz := hz.symm; subst hr; subst hz
              refine j_iload_n C dX9_giveUp_49 rfl rfl ?_
              refine j_icmp_ge (tgt := 59) C dX9_giveUp_50 (by decide) (fun c_50 => ?_) (fun c_50 => ?_)
              · skip
                refine j_iload C dX9_giveUp_59 rfl ?_
                refine hret _ _ _ _ dX9_giveUp_61 rfl ?_
                refine ok_pos ⟨⟨(nI_0le hi_2 (by omega)).1, by rw [hX.1.1]; exact (nI_0le hi_2 (by omega)).2⟩, (by simp only [Int32.lt_iff_toInt_lt, Int32.le_iff_toInt_le, ← Int32.toInt_inj, Int32.reduceToInt] at b_q b_w ⊢; omega)⟩ ?_
                rw [nI_clamp (show i_2 < 2147483648 by omega)]
                first
                  | exact ⟨by rw [hg]; rfl, fun k hk => zf_26 k (by unfold scX at hk; omega)⟩
                  | (refine ⟨?_, fun k hk => zf_26 k (by unfold scX at hk; omega)⟩
                     obtain ⟨d9, rfl⟩ : ∃ d9, d = d9 + 1 := ⟨d - 1, by omega⟩
                     rw [hg, giS, if_pos]
                     rw [Nat.add_sub_cancel, zl_26 d9 (by omega)] at c_50
                     simp only [Int32.lt_iff_toInt_lt, Int32.le_iff_toInt_le, ← Int32.toInt_inj, Int32.reduceToInt] at c_50 ⊢; omega)
              · skip
                have hcc := c_50
                rw [show d - 1 = d - 1 from rfl] at hcc
                obtain ⟨d9, rfl⟩ : ∃ d9, d = d9 + 1 := ⟨d - 1, by omega⟩
                rw [Nat.add_sub_cancel] at hcc
                refine j_iinc (lv' := [(4, _), (0, _), (1, _), (2, _), (3, _)]) C dX9_giveUp_53 rfl rfl (by decide) rfl ?_
                refine j_goto (tgt := 33) C dX9_giveUp_56 (by decide) ?_
                refine j_lv (lv' := [(0, _), (1, _), (2, _), (3, _), (4, _)]) rfl ?_
                have e9 : nI (d9 + 1) + Int32.ofInt (-1) = nI d9 := pk_m1 d9
                rw [e9]
                exact ih d9 (by omega) (by omega) (by rw [hg, giS, if_neg]; rw [zl_26 d9 (by omega)] at hcc; simp only [Int32.lt_iff_toInt_lt, Int32.le_iff_toInt_le, ← Int32.toInt_inj, Int32.reduceToInt] at hcc ⊢; omega)
        refine j_lv (lv' := [(0, _), (1, _), (2, _), (3, _), (4, _)]) rfl ?_
        exact L_33 31 30 (by omega) (by omega) rfl
      · skip
        refine j_bipush (v := -2) C dX9_giveUp_21 rfl ?_
        refine hret _ _ _ _ dX9_giveUp_23 rfl ?_
        first | exact ⟨(if_neg (fun h => hno_2 h.1)).symm, fkX_r⟩ | exact ⟨(if_neg (fun h => by have := h.2; simp only [Int32.lt_iff_toInt_lt, Int32.le_iff_toInt_le, ← Int32.toInt_inj, Int32.reduceToInt] at *; omega)).symm, fkX_r⟩
  · skip
    refine j_astore_nN (lv' := [(3, _), (0, _), (1, _), (2, _)]) C dX9_giveUp_5 rfl (by decide) rfl ?_
    refine j_aload_nN C dX9_giveUp_6 rfl rfl ?_
    refine j_ifnullN (tgt := 21) C dX9_giveUp_7 (by decide) ?_
    refine j_bipush (v := -2) C dX9_giveUp_21 rfl ?_
    refine hret _ _ _ _ dX9_giveUp_23 rfl ?_
    first | exact ⟨(if_neg (fun h => hno_2 h.1)).symm, fkX_r⟩ | exact ⟨(if_neg (fun h => by have := h.2; simp only [Int32.lt_iff_toInt_lt, Int32.le_iff_toInt_le, ← Int32.toInt_inj, Int32.reduceToInt] at *; omega)).symm, fkX_r⟩
