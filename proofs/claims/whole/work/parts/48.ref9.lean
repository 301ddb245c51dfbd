/-! A TEXT IS TAKEN; WHAT THE RULE SAYS; A GLOVE'S DAYS -/
def txF (x z : mS) (s t : Nat) : Prop := (∀ k, k ≠ 0 → k ≠ 1 → k ≠ 2 → z.1 k = x.1 k) ∧ (∀ j, ¬ (160 * t ≤ j ∧ j < 160 * t + s) → z.1 1 j = x.1 1 j) ∧ (∀ i, i < s → z.1 1 (160 * t + i) = x.1 3 i) ∧ z.1 2 = upd (x.1 2) t (nI s) ∧ z.1 0 6 = 0 ∧ ∀ j, j ≠ 3 → j ≠ 6 → (j < 17 ∨ 25 < j) → z.1 0 j = x.1 0 j
theorem txF_3 {x z : mS} {s t : Nat} {v : Int32} (h : txF x z s t) : txF x (mU z 0 3 v) s t := by
  obtain ⟨h1, h2, h3, h4, h5, h6⟩ := h
  refine ⟨fun k a b c => by rw [mU_1, uM_ne a]; exact h1 k a b c, fun j hj => by rw [mU_1, uM_ne (by decide)]; exact h2 j hj, fun i hi => by rw [mU_1, uM_ne (by decide)]; exact h3 i hi, by rw [mU_1, uM_ne (by decide)]; exact h4, by rw [mU_1, uM_n (by decide)]; exact h5, fun j a b c => by rw [mU_1, uM_n a]; exact h6 j a b c⟩
def asS (T : Nat → List Int32) (r : Nat → Int32) (p d f w : Int32) : Int32 := if w = 0 then wiS (vaS (enS r p d f) (T 0)) 0 100 else if w = 1 then wiS (vaS (enS r p d f) (T 1)) (-19) 19 else wiS (vaS (enS r p d f) (T 2)) 0 99
theorem mH_6 {x : mS} {v1 v2 v3 v4 v5 v6 : Int32} : mH x (mU (mU (mU (mU (mU (mU x 0 11 v1) 0 12 v2) 0 13 v3) 0 14 v4) 0 15 v5) 0 16 v6) := mH_1 (mH_1 (mH_1 (mH_1 (mH_1 (mH_1 mH_r (by decide)) (by decide)) (by decide)) (by decide)) (by decide)) (by decide)
theorem mH_0 {x z : mS} (h : mH x z) (j : Nat) (hj : j < 11 ∨ 25 < j) : z.1 0 j = x.1 0 j := h.2 j hj
theorem mH_k {x z : mS} (h : mH x z) (k : Nat) (hk : k ≠ 0) : z.1 k = x.1 k := h.1 k hk
theorem tgM_h {x z : mS} {b : Nat → Int32} {n t : Nat} (h : tgM x b n t) (h1 : z.1 1 = x.1 1) (h2 : z.1 2 = x.1 2) : tgM z b n t := by
  obtain ⟨a1, a2, a3, a4, a5⟩ := h
  exact ⟨a1, by rw [h2]; exact a2, a3, fun i hi => by rw [h1]; exact a4 i hi, a5⟩
theorem as_e {x : mS} {i : Nat} {q d v2 v4 v5 v6 : Int32} (hq : 0 ≤ q ∧ q ≤ 19) (hf : 0 ≤ x.1 4 0 ∧ x.1 4 0 ≤ 19) (e2 : v2 = x.1 6 (4 * i + 2)) (e4 : v4 = x.1 6 (4 * i)) (e5 : v5 = apS q (x.1 4 0)) (e6 : v6 = x.1 6 (4 * i + 3)) : ∀ k, 2 ≤ k → k < 8 → eM (mU (mU (mU (mU (mU (mU x 0 11 q) 0 12 v2) 0 13 d) 0 14 v4) 0 15 v5) 0 16 v6) k = enS (gV x i) q d (x.1 4 0) k := by
  intro k h1 h2
  have hc : k = 2 ∨ k = 3 ∨ k = 4 ∨ k = 5 ∨ k = 6 ∨ k = 7 := by omega
  have ha := ap_en hq hf
  subst e2; subst e4; subst e5; subst e6
  rcases hc with rfl | rfl | rfl | rfl | rfl | rfl
  · simp [eM, enS, gV, mU_1, uM_all]
  · simp [eM, enS, gV, mU_1, uM_all]
  · simp [eM, enS, gV, mU_1, uM_all]
  · simp [eM, enS, gV, mU_1, uM_all]
  · simp only [eM, enS, mU_1, uM_all]; simp [ha]
  · simp [eM, enS, gV, mU_1, uM_all]
/-- the reference's state: m gloves, t texts, text ru is the rule, text j has the bytes B j, N j of them -/
abbrev wkR (x : mS) : Prop := (0 ≤ x.1 4 0 ∧ x.1 4 0 ≤ 19) ∧ 0 ≤ x.1 4 1 ∧ x.1 4 1 ≤ 19
def inM (x : mS) (m t ru : Nat) (B : Nat → Nat → Int32) (N : Nat → Nat) : Prop := mnR x m ∧ (x.1 0 3 = nI t ∧ 1 ≤ t ∧ t ≤ 6) ∧ (x.1 0 4 = nI ru ∧ ru < t) ∧ wkR x ∧ (∀ j, j < t → tgM x (B j) (N j) j) ∧ ∀ i, i < m → 0 ≤ x.1 6 (4 * i + 1) ∧ x.1 6 (4 * i + 1) ≤ 19
abbrev tM (B : Nat → Nat → Int32) (N : Nat → Nat) (j : Nat) : Nat → List Int32 := tdT (tcS (B j) (N j)) (tnS (B j) (N j))
/-- nothing but the rows of days and the reader's slots is new -/
def mK (x z : mS) : Prop := (∀ k, k ≠ 0 → k ≠ 7 → k ≠ 8 → z.1 k = x.1 k) ∧ ∀ j, (j < 11 ∨ 25 < j) → z.1 0 j = x.1 0 j
theorem mK_r {x : mS} : mK x x := ⟨fun _ _ _ _ => rfl, fun _ _ => rfl⟩
theorem mK_t {x y z : mS} (h : mK x y) (h2 : mK y z) : mK x z := ⟨fun k a b c => (h2.1 k a b c).trans (h.1 k a b c), fun j hj => (h2.2 j hj).trans (h.2 j hj)⟩
theorem mK_h {x z : mS} (h : mH x z) : mK x z := ⟨fun k a _ _ => h.1 k a, h.2⟩
theorem mK_7 {x y : mS} {j : Nat} {v : Int32} (h : mK x y) : mK x (mU y 7 j v) := ⟨fun k a b c => by rw [mU_1, uM_ne b]; exact h.1 k a b c, fun i hi => by rw [mU_1, uM_ne (by decide)]; exact h.2 i hi⟩
theorem mK_8 {x y : mS} {j : Nat} {v : Int32} (h : mK x y) : mK x (mU y 8 j v) := ⟨fun k a b c => by rw [mU_1, uM_ne c]; exact h.1 k a b c, fun i hi => by rw [mU_1, uM_ne (by decide)]; exact h.2 i hi⟩
theorem mK_in {x z : mS} {m t ru : Nat} {B : Nat → Nat → Int32} {N : Nat → Nat} (hX : inM x m t ru B N) (h : mK x z) : inM z m t ru B N := by
  obtain ⟨⟨a1, a2⟩, a3, a4, a5, a6, a7⟩ := hX
  have e4 : z.1 4 = x.1 4 := h.1 4 (by decide) (by decide) (by decide)
  have e6 : z.1 6 = x.1 6 := h.1 6 (by decide) (by decide) (by decide)
  refine ⟨⟨by rw [h.2 10 (by decide)]; exact a1, a2⟩, by rw [h.2 3 (by decide)]; exact a3, by rw [h.2 4 (by decide)]; exact a4, by unfold wkR; rw [e4]; exact a5, fun j hj => tgM_h (a6 j hj) (h.1 1 (by decide) (by decide) (by decide)) (h.1 2 (by decide) (by decide) (by decide)), fun i hi => by rw [e6]; exact a7 i hi⟩
theorem mK_gV {x z : mS} (h : mK x z) {i : Nat} : gV z i = gV x i := by
  show (fun j => if j = 0 then z.1 5 i else z.1 6 (4 * i + (j - 1))) = _
  rw [h.1 5 (by decide) (by decide) (by decide), h.1 6 (by decide) (by decide) (by decide)]
theorem mK_4 {x z : mS} (h : mK x z) : z.1 4 = x.1 4 := h.1 4 (by decide) (by decide) (by decide)
theorem plS_in {T : Nat → List Int32} {r : Nat → Int32} {f : Int32} (h : 0 ≤ r 2 ∧ r 2 ≤ 19) : ∀ d, 0 ≤ plS T r f d ∧ plS T r f d ≤ 19
  | 0 => h
  | _ + 1 => wi_in (by decide)
theorem la_gV {x : mS} {i : Nat} : laS (fun j => if j = 0 then x.1 5 i else x.1 6 (4 * i)) = laS (gV x i) := by simp [laS, gV]
theorem pl_ne {p : Int32} (h : 0 ≤ p ∧ p ≤ 19) : ¬ p = -1 := fun e => by rw [e] at h; exact absurd h.1 (by decide)

set_option maxHeartbeats 4000000 in
set_option maxRecDepth 100000 in
theorem c_X10_text (l : Launch) (g : jG) (a : Nat → Nat) (x : mS)  (s t : Nat) (ht : x.1 0 3 = nI t) (ht6 : t ≤ 6) (hs : x.1 0 6 = nI s) (hs2 : s ≤ 160) (hb : ∀ i, i < s → 0 ≤ x.1 3 i) : Ci l g yX10_text cX10_text 2 .int 42 930 0 0 (mW g a) [.ref (a 0)] x (fun r z => (t = 6 ∧ r = -4 ∧ z = x) ∨ (t < 6 ∧ txF x z s t ∧ ((flS (tcS (x.1 3) s) (tnS (x.1 3) s) = none ∧ r = nI t ∧ z.1 0 3 = nI (t + 1)) ∨ ∃ q, flS (tcS (x.1 3) s) (tnS (x.1 3) s) = some q ∧ r = -100 - nI (psS (x.1 3) s q) ∧ z.1 0 3 = nI t))) := by
  refine mk_i (by decide +kernel) rfl (fun KK hKl hKg C hin hret => ?_)
  subst hKl; subst hKg
  refine j_lv (lv' := [(0, _)]) rfl ?_
  refine j_aload_n C dX10_text_0 rfl rfl ?_
  refine j_get C dX10_text_1 jf_RX10_67 (wO mO) rfl ?_
  refine j_bipush (v := 6) C dX10_text_4 rfl ?_
  refine j_icmp_ne (tgt := 12) C dX10_text_6 (by decide) (fun c_6 => ?_) (fun c_6 => ?_)
  · skip
    have hlt : t < 6 := by
      have : ¬ t = 6 := fun h => c_6 (by rw [ht, h]; rfl)
      omega
    have e_s : (nI s).toInt = s := nI_toInt (by omega)
    refine j_iconst (v := 0) C dX10_text_12 rfl ?_
    refine j_istore_n (lv' := [(1, _), (0, _)]) C dX10_text_13 rfl (by decide) rfl ?_
    have L_14 : ∀ k : Nat, ∀ (i : Nat) (x' : mS), i ≤ s → s < i + k → (∀ k, k ≠ 1 → x'.1 k = x.1 k) → (∀ j, ¬ (160 * t ≤ j ∧ j < 160 * t + i) → x'.1 1 j = x.1 1 j) → (∀ j, j < i → x'.1 1 (160 * t + j) = x.1 3 j) → J KK (mW (kG KK) a) 0 0 x' [(0, .ref (a 0)), (1, .int (nI i))] 14 [] := by
      intro k
      induction k with
      | zero => intro i x' h1 hk hF hA hB; omega
      | succ k ih =>
        intro i x' h1 hk hF hA hB
        have e_i : (nI i).toInt = i := nI_toInt (by omega)
        have hF0 : x'.1 0 = x.1 0 := hF 0 (by decide)
        refine j_iload_n C dX10_text_14 rfl rfl ?_
        refine j_aload_n C dX10_text_15 rfl rfl ?_
        refine j_get C dX10_text_16 jf_RX10_111 (wO mO) rfl ?_
        refine j_icmp_ge (tgt := 49) C dX10_text_19 (by decide) (fun c_19 => ?_) (fun c_19 => ?_)
        · skip
          have hi : i = s := by rw [hF0, hs] at c_19; simp only [Int32.lt_iff_toInt_lt, Int32.le_iff_toInt_le, ← Int32.toInt_inj, Int32.reduceToInt, e_i, e_s] at c_19; omega
          subst hi
          refine j_aload_n C dX10_text_49 rfl rfl ?_
          refine j_get C dX10_text_50 jf_RX10_17 (wO mO) rfl ?_
          refine j_aload_n C dX10_text_53 rfl rfl ?_
          refine j_get C dX10_text_54 jf_RX10_67 (wO mO) rfl ?_
          refine j_aload_n C dX10_text_57 rfl rfl ?_
          refine j_get C dX10_text_58 jf_RX10_111 (wO mO) rfl ?_
          refine j_iast C (t) dX10_text_61 (wA mA2) (by rw [hF0]; exact ht) (hlt) (by decide) (sMa mA2 _ _) ?_
          refine j_aload_n C dX10_text_62 rfl rfl ?_
          refine j_iconst (v := 0) C dX10_text_63 rfl ?_
          refine j_put C dX10_text_64 jp_RX10_111 (wO mO) (Nat.le_of_ble_eq_true rfl) rfl rfl (sMo 6 _ rfl) ?_
          refine j_aload_n C dX10_text_67 rfl rfl ?_
          refine j_aload_n C dX10_text_68 rfl rfl ?_
          refine j_get C dX10_text_69 jf_RX10_67 (wO mO) rfl ?_
          refine j_iconst (v := 0) C dX10_text_72 rfl ?_
          refine j_calliv C (c_X10_read _ _ _ _ _ _ (x.1 3) i t (by rw [mU_1, uM_n (by decide), mU_1, uM_ne (by decide), hF0]; exact ht) hlt (by rw [mU_1, uM_ne (by decide), mU_1, uM_s, hF0]; exact hs) hs2 (fun j hj => ⟨by rw [mU_1, uM_ne (by decide), mU_1, uM_ne (by decide)]; exact hB j hj, hb j hj⟩)) dX10_text_73 jm_RX10_315 ⟨_, _, _, _, wO mO, rfl, rfl⟩ ⟨by decide, by decide, by decide, by decide⟩ rfl (Nat.le_of_ble_eq_true rfl) (fun r_73 z_73 hz_73 => ?_)
          obtain ⟨hg_73, hc_73⟩ := hz_73
          have hQ : txF x z_73 i t := by
            refine ⟨fun k a b c => ?_, fun j hj => ?_, fun j hj => ?_, ?_, ?_, fun j a b c => ?_⟩
            · rw [hg_73.1 k a, mU_1, uM_ne a, mU_1, uM_ne c]; exact hF k b
            · rw [hg_73.1 1 (by decide), mU_1, uM_ne (by decide), mU_1, uM_ne (by decide)]; exact hA j hj
            · rw [hg_73.1 1 (by decide), mU_1, uM_ne (by decide), mU_1, uM_ne (by decide)]; exact hB j hj
            · rw [hg_73.1 2 (by decide), mU_1, uM_ne (by decide), mU_1, uM_eq, hF 2 (by decide), hF0, hs]
            · rw [hg_73.2 6 (by decide), mU_1, uM_s]
            · rw [hg_73.2 j c, mU_1, uM_n b, mU_1, uM_ne (by decide), hF0]
          have z03 : z_73.1 0 3 = nI t := by rw [hg_73.2 3 (by decide), mU_1, uM_n (by decide), mU_1, uM_ne (by decide), hF0]; exact ht
          refine j_istore_n (lv' := [(1, _), (0, _)]) C dX10_text_76 rfl (by decide) rfl ?_
          refine j_aload_n C dX10_text_77 rfl rfl ?_
          refine j_get C dX10_text_78 jf_RX10_146 (wO mO) rfl ?_
          refine j_if_eq (tgt := 92) C dX10_text_81 (by decide) (fun c_81 => ?_) (fun c_81 => ?_)
          · skip
            refine j_aload_n C dX10_text_92 rfl rfl ?_
            refine j_dup C dX10_text_93 rfl ?_
            refine j_get C dX10_text_94 jf_RX10_67 (wO mO) rfl ?_
            refine j_iconst (v := 1) C dX10_text_97 rfl ?_
            refine j_iadd C dX10_text_98 ?_
            refine j_put C dX10_text_99 jp_RX10_67 (wO mO) (Nat.le_of_ble_eq_true rfl) rfl rfl (sMo 3 _ rfl) ?_
            refine j_aload_n C dX10_text_102 rfl rfl ?_
            refine j_get C dX10_text_103 jf_RX10_67 (wO mO) rfl ?_
            refine j_iconst (v := 1) C dX10_text_106 rfl ?_
            refine j_isub C dX10_text_107 ?_
            refine hret _ _ _ _ dX10_text_108 rfl ?_
            rcases hc_73 with ⟨hfl, _, _⟩ | ⟨q, _, h24, _⟩
            · have e9 : z_73.1 0 3 + 1 = nI (t + 1) := by rw [z03, nI_1]
              rw [e9]
              refine Or.inr ⟨hlt, txF_3 hQ, Or.inl ⟨hfl, ?_, by rw [mU_1, uM_s]⟩⟩
              rw [mU_1, uM_s]; exact (pk_sub (a := t + 1) (b := 1) (by omega)).trans (congrArg nI (by omega))
            · exact absurd c_81 h24
          · skip
            refine j_bipush (v := -100) C dX10_text_84 rfl ?_
            refine j_aload_n C dX10_text_86 rfl rfl ?_
            refine j_get C dX10_text_87 jf_RX10_150 (wO mO) rfl ?_
            refine j_isub C dX10_text_90 ?_
            refine hret _ _ _ _ dX10_text_91 rfl ?_
            rcases hc_73 with ⟨_, h24, _⟩ | ⟨q, hfl, _, h25⟩
            · exact absurd h24 c_81
            · exact Or.inr ⟨hlt, hQ, Or.inr ⟨q, hfl, by rw [h25], z03⟩⟩
        · skip
          have hi : i < s := by rw [hF0, hs] at c_19; simp only [Int32.lt_iff_toInt_lt, Int32.le_iff_toInt_le, ← Int32.toInt_inj, Int32.reduceToInt, e_i, e_s] at c_19; omega
          refine j_aload_n C dX10_text_22 rfl rfl ?_
          refine j_get C dX10_text_23 jf_RX10_13 (wO mO) rfl ?_
          refine j_sipush (v := 160) C dX10_text_26 rfl ?_
          refine j_aload_n C dX10_text_29 rfl rfl ?_
          refine j_get C dX10_text_30 jf_RX10_67 (wO mO) rfl ?_
          refine j_imul C dX10_text_33 ?_
          refine j_iload_n C dX10_text_34 rfl rfl ?_
          refine j_iadd C dX10_text_35 ?_
          refine j_aload_n C dX10_text_36 rfl rfl ?_
          refine j_get C dX10_text_37 jf_RX10_20 (wO mO) rfl ?_
          refine j_iload_n C dX10_text_40 rfl rfl ?_
          refine j_iald C (i) dX10_text_41 (wA mA3) (rfl) (by omega) (by decide) ?_
          refine j_iast C (160 * t + i) dX10_text_42 (wA mA1) (by rw [hF0, ht]; exact (congrArg (· + nI i) (pk_mul 160 t)).trans (nI_add _ _)) (by omega) (by decide) (sMa mA1 _ _) ?_
          refine j_iinc (lv' := [(1, _), (0, _)]) (v := nI (i + 1)) C dX10_text_43 rfl (j_inc1 i) (by decide) rfl ?_
          refine j_goto (tgt := 14) C dX10_text_46 (by decide) ?_
          refine j_lv (lv' := [(0, _), (1, _)]) rfl ?_
          exact ih (i + 1) _ (by omega) (by omega) (fun k hk => by rw [mU_1, uM_ne hk]; exact hF k hk) (fun j hj => by rw [mU_1, uM_n (by omega)]; exact hA j (by omega)) (fun j hj => by
            by_cases h : j = i
            · subst h; rw [mU_1, uM_s, hF 3 (by decide)]
            · rw [mU_1, uM_n (by omega)]; exact hB j (by omega))
    refine j_lv (lv' := [(0, _), (1, _)]) rfl ?_
    exact L_14 (s + 1) 0 x (by omega) (by omega) (fun _ _ => rfl) (fun _ _ => rfl) (fun j hj => absurd hj (by omega))
  · skip
    have heq : t = 6 := (nI_eq (b := 6) (by omega) (by decide)).mp (ht.symm.trans c_6)
    refine j_bipush (v := -4) C dX10_text_9 rfl ?_
    refine hret _ _ _ _ dX10_text_11 rfl ?_
    exact Or.inl ⟨heq, rfl, rfl⟩
set_option maxHeartbeats 4000000 in
set_option maxRecDepth 100000 in
theorem c_X10_asks (l : Launch) (g : jG) (a : Nat → Nat) (x : mS) (w : Int32) (p : Int32) (d : Int32) (q : Int32) (b : Nat → Int32) (n ru i : Nat) (hru : x.1 0 4 = nI ru) (htg : tgM x b n ru) (hp : p = nI i) (hi : i < 6) (hq : 0 ≤ q ∧ q ≤ 19) (hf : 0 ≤ x.1 4 0 ∧ x.1 4 0 ≤ 19) : Ci l g yX10_asks cX10_asks 6 .int 42 930 0 0 (mW g a) [.ref (a 0), .int w, .int p, .int d, .int q] x (fun r z => mH x z ∧ r = asS (tdT (tcS b n) (tnS b n)) (gV x i) q d (x.1 4 0) w) := by
  refine mk_i (by decide +kernel) rfl (fun KK hKl hKg C hin hret => ?_)
  subst hKl; subst hKg
  refine j_lv (lv' := [(0, _), (1, _), (2, _), (3, _), (4, _)]) rfl ?_
  subst hp
  refine j_aload_n C dX10_asks_0 rfl rfl ?_
  refine j_iload C dX10_asks_1 rfl ?_
  refine j_put C dX10_asks_3 jp_RX10_170 (wO mO) (Nat.le_of_ble_eq_true rfl) rfl rfl (sMo 11 _ rfl) ?_
  refine j_aload_n C dX10_asks_6 rfl rfl ?_
  refine j_aload_n C dX10_asks_7 rfl rfl ?_
  refine j_get C dX10_asks_8 jf_RX10_29 (wO mO) rfl ?_
  refine j_iconst (v := 4) C dX10_asks_11 rfl ?_
  refine j_iload_n C dX10_asks_12 rfl rfl ?_
  refine j_imul C dX10_asks_13 ?_
  refine j_iconst (v := 2) C dX10_asks_14 rfl ?_
  refine j_iadd C dX10_asks_15 ?_
  refine j_iald C (4 * i + 2) dX10_asks_16 (wA mA6) ((congrArg (· + nI 2) (pk_mul 4 i)).trans (nI_add _ _)) (by omega) (by decide) ?_
  refine j_put C dX10_asks_17 jp_RX10_173 (wO mO) (Nat.le_of_ble_eq_true rfl) rfl rfl (sMo 12 _ rfl) ?_
  refine j_aload_n C dX10_asks_20 rfl rfl ?_
  refine j_iload_n C dX10_asks_21 rfl rfl ?_
  refine j_put C dX10_asks_22 jp_RX10_176 (wO mO) (Nat.le_of_ble_eq_true rfl) rfl rfl (sMo 13 _ rfl) ?_
  refine j_aload_n C dX10_asks_25 rfl rfl ?_
  refine j_aload_n C dX10_asks_26 rfl rfl ?_
  refine j_get C dX10_asks_27 jf_RX10_29 (wO mO) rfl ?_
  refine j_iconst (v := 4) C dX10_asks_30 rfl ?_
  refine j_iload_n C dX10_asks_31 rfl rfl ?_
  refine j_imul C dX10_asks_32 ?_
  refine j_iald C (4 * i) dX10_asks_33 (wA mA6) (pk_mul 4 i) (by omega) (by decide) ?_
  refine j_put C dX10_asks_34 jp_RX10_179 (wO mO) (Nat.le_of_ble_eq_true rfl) rfl rfl (sMo 14 _ rfl) ?_
  refine j_aload_n C dX10_asks_37 rfl rfl ?_
  refine j_iload C dX10_asks_38 rfl ?_
  refine j_aload_n C dX10_asks_40 rfl rfl ?_
  refine j_get C dX10_asks_41 jf_RX10_23 (wO mO) rfl ?_
  refine j_iconst (v := 0) C dX10_asks_44 rfl ?_
  refine j_iald C (0) dX10_asks_45 (wA mA4) (rfl) (by decide) (by decide) ?_
  refine j_callis C (c_X10_apart _ _ _ _ _ _ ) dX10_asks_46 jm_RX10_318 ⟨by decide, by decide, by decide, by decide⟩ rfl (Nat.le_of_ble_eq_true rfl) (fun r z hz => ?_)
  obtain ⟨hr, hz⟩ := hz; have hr := hr.symm; have hz := hz.symm; subst hr; subst hz
  refine j_put C dX10_asks_49 jp_RX10_182 (wO mO) (Nat.le_of_ble_eq_true rfl) rfl rfl (sMo 15 _ rfl) ?_
  refine j_aload_n C dX10_asks_52 rfl rfl ?_
  refine j_aload_n C dX10_asks_53 rfl rfl ?_
  refine j_get C dX10_asks_54 jf_RX10_29 (wO mO) rfl ?_
  refine j_iconst (v := 4) C dX10_asks_57 rfl ?_
  refine j_iload_n C dX10_asks_58 rfl rfl ?_
  refine j_imul C dX10_asks_59 ?_
  refine j_iconst (v := 3) C dX10_asks_60 rfl ?_
  refine j_iadd C dX10_asks_61 ?_
  refine j_iald C (4 * i + 3) dX10_asks_62 (wA mA6) ((congrArg (· + nI 3) (pk_mul 4 i)).trans (nI_add _ _)) (by omega) (by decide) ?_
  refine j_put C dX10_asks_63 jp_RX10_185 (wO mO) (Nat.le_of_ble_eq_true rfl) rfl rfl (sMo 16 _ rfl) ?_
  refine j_aload_n C dX10_asks_66 rfl rfl ?_
  refine j_aload_n C dX10_asks_67 rfl rfl ?_
  refine j_get C dX10_asks_68 jf_RX10_95 (wO mO) rfl ?_
  refine j_iload_n C dX10_asks_71 rfl rfl ?_
  refine j_calliv C (c_X10_read _ _ _ _ _ _ b n ru ((mH_0 mH_6 4 (by decide)).trans hru) htg.1 ((congrFun (mH_k mH_6 2 (by decide)) ru).trans htg.2.1) htg.2.2.1 (fun j hj => ⟨(congrFun (mH_k mH_6 1 (by decide)) (160 * ru + j)).trans (htg.2.2.2.1 j hj).1, (htg.2.2.2.1 j hj).2⟩)) dX10_asks_72 jm_RX10_315 ⟨_, _, _, _, wO mO, rfl, rfl⟩ ⟨by decide, by decide, by decide, by decide⟩ rfl (Nat.le_of_ble_eq_true rfl) (fun r_72 z_72 hz_72 => ?_)
  obtain ⟨hg_72, hc_72⟩ := hz_72
  have hv_72 := (hc_72.resolve_right (fun h => by
    obtain ⟨q', h, _⟩ := h
    rw [htg.2.2.2.2] at h; exact absurd h (by simp))).2.2.trans (vaS_c (as_e (i := i) hq hf rfl rfl rfl rfl) _)
  have hH_72 : mH x z_72 := mH_g mH_6 hg_72
  refine j_istore (lv' := [(5, _), (0, _), (1, _), (2, _), (3, _), (4, _)]) C dX10_asks_75 (by decide) rfl ?_
  refine j_iload_n C dX10_asks_77 rfl rfl ?_
  refine j_if_ne (tgt := 92) C dX10_asks_78 (by decide) (fun c_78 => ?_) (fun c_78 => ?_)
  · skip
    refine j_iload_n C dX10_asks_92 rfl rfl ?_
    refine j_iconst (v := 1) C dX10_asks_93 rfl ?_
    refine j_icmp_ne (tgt := 109) C dX10_asks_94 (by decide) (fun c_94 => ?_) (fun c_94 => ?_)
    · skip
      refine j_iload C dX10_asks_109 rfl ?_
      refine j_iconst (v := 0) C dX10_asks_111 rfl ?_
      refine j_bipush (v := 99) C dX10_asks_112 rfl ?_
      refine j_callis C (c_X10_within _ _ _ _ _ _ _ ) dX10_asks_114 jm_RX10_321 ⟨by decide, by decide, by decide, by decide⟩ rfl (Nat.le_of_ble_eq_true rfl) (fun r z hz => ?_)
      obtain ⟨hr, hz⟩ := hz; have hr := hr.symm; have hz := hz.symm; subst hr; subst hz
      refine hret _ _ _ _ dX10_asks_117 rfl ?_
      refine ⟨hH_72, ?_⟩
      unfold asS
      rw [hv_72, if_neg c_78, if_neg c_78, if_neg c_94, if_neg c_94]
    · skip
      refine j_iload C dX10_asks_97 rfl ?_
      refine j_bipush (v := -19) C dX10_asks_99 rfl ?_
      refine j_bipush (v := 19) C dX10_asks_101 rfl ?_
      refine j_callis C (c_X10_within _ _ _ _ _ _ _ ) dX10_asks_103 jm_RX10_321 ⟨by decide, by decide, by decide, by decide⟩ rfl (Nat.le_of_ble_eq_true rfl) (fun r z hz => ?_)
      obtain ⟨hr, hz⟩ := hz; have hr := hr.symm; have hz := hz.symm; subst hr; subst hz
      refine j_goto (tgt := 117) C dX10_asks_106 (by decide) ?_
      refine hret _ _ _ _ dX10_asks_117 rfl ?_
      refine ⟨hH_72, ?_⟩
      unfold asS
      rw [hv_72, if_neg c_78, if_neg c_78, if_pos c_94, if_pos c_94]
  · skip
    refine j_iload C dX10_asks_81 rfl ?_
    refine j_iconst (v := 0) C dX10_asks_83 rfl ?_
    refine j_bipush (v := 100) C dX10_asks_84 rfl ?_
    refine j_callis C (c_X10_within _ _ _ _ _ _ _ ) dX10_asks_86 jm_RX10_321 ⟨by decide, by decide, by decide, by decide⟩ rfl (Nat.le_of_ble_eq_true rfl) (fun r z hz => ?_)
    obtain ⟨hr, hz⟩ := hz; have hr := hr.symm; have hz := hz.symm; subst hr; subst hz
    refine j_goto (tgt := 117) C dX10_asks_89 (by decide) ?_
    refine hret _ _ _ _ dX10_asks_117 rfl ?_
    refine ⟨hH_72, ?_⟩
    unfold asS
    rw [hv_72, if_pos c_78, if_pos c_78]
set_option maxHeartbeats 4000000 in
set_option maxRecDepth 100000 in
theorem c_X10_showsOf (l : Launch) (g : jG) (a : Nat → Nat) (x : mS) (p : Int32) (v : Int32) (i : Nat) (hp : p = nI i) (hi : i < 6) : Ci l g yX10_showsOf cX10_showsOf 6 .int 1 22 0 0 (mW g a) [.ref (a 0), .int p, .int v] x (fun r z => r = shS (gV x i) v (x.1 4 2) ∧ z = x) := by
  refine mk_i (by decide +kernel) rfl (fun KK hKl hKg C hin hret => ?_)
  subst hKl; subst hKg
  refine j_lv (lv' := [(0, _), (1, _), (2, _)]) rfl ?_
  subst hp
  refine j_aload_n C dX10_showsOf_0 rfl rfl ?_
  refine j_get C dX10_showsOf_1 jf_RX10_26 (wO mO) rfl ?_
  refine j_iload_n C dX10_showsOf_4 rfl rfl ?_
  refine j_iald C (i) dX10_showsOf_5 (wA mA5) (rfl) (hi) (by decide) ?_
  refine j_istore_n (lv' := [(3, _), (0, _), (1, _), (2, _)]) C dX10_showsOf_6 rfl (by decide) rfl ?_
  refine j_aload_n C dX10_showsOf_7 rfl rfl ?_
  refine j_get C dX10_showsOf_8 jf_RX10_29 (wO mO) rfl ?_
  refine j_iconst (v := 4) C dX10_showsOf_11 rfl ?_
  refine j_iload_n C dX10_showsOf_12 rfl rfl ?_
  refine j_imul C dX10_showsOf_13 ?_
  refine j_iconst (v := 3) C dX10_showsOf_14 rfl ?_
  refine j_iadd C dX10_showsOf_15 ?_
  refine j_iald C (4 * i + 3) dX10_showsOf_16 (wA mA6) ((congrArg (· + nI 3) (pk_mul 4 i)).trans (nI_add _ _)) (by omega) (by decide) ?_
  refine j_aload_n C dX10_showsOf_17 rfl rfl ?_
  refine j_get C dX10_showsOf_18 jf_RX10_23 (wO mO) rfl ?_
  refine j_iconst (v := 2) C dX10_showsOf_21 rfl ?_
  refine j_iald C (2) dX10_showsOf_22 (wA mA4) (rfl) (by decide) (by decide) ?_
  refine j_icmp_ne (tgt := 30) C dX10_showsOf_23 (by decide) (fun c_23 => ?_) (fun c_23 => ?_)
  · skip
    refine j_iload_n C dX10_showsOf_30 rfl rfl ?_
    refine j_iconst (v := 2) C dX10_showsOf_31 rfl ?_
    refine j_idiv C dX10_showsOf_32 (by decide) ?_
    refine j_istore (lv' := [(4, _), (3, _), (0, _), (1, _), (2, _)]) C dX10_showsOf_33 (by decide) rfl ?_
    refine j_iload_n C dX10_showsOf_35 rfl rfl ?_
    refine j_iconst (v := 1) C dX10_showsOf_36 rfl ?_
    refine j_icmp_ne (tgt := 47) C dX10_showsOf_37 (by decide) (fun c_37 => ?_) (fun c_37 => ?_)
    · skip
      refine j_iload_n C dX10_showsOf_47 rfl rfl ?_
      refine j_iconst (v := 3) C dX10_showsOf_48 rfl ?_
      refine j_icmp_ne (tgt := 68) C dX10_showsOf_49 (by decide) (fun c_49 => ?_) (fun c_49 => ?_)
      · skip
        refine j_iload_n C dX10_showsOf_68 rfl rfl ?_
        refine j_iconst (v := 2) C dX10_showsOf_69 rfl ?_
        refine j_icmp_eq (tgt := 78) C dX10_showsOf_70 (by decide) (fun c_70 => ?_) (fun c_70 => ?_)
        · skip
          refine j_iload C dX10_showsOf_78 rfl ?_
          refine j_bipush (v := 20) C dX10_showsOf_80 rfl ?_
          refine j_iadd C dX10_showsOf_82 ?_
          refine j_goto (tgt := 107) C dX10_showsOf_83 (by decide) ?_
          refine j_istore (lv' := [(5, _), (4, _), (3, _), (0, _), (1, _), (2, _)]) C dX10_showsOf_107 (by decide) rfl ?_
          refine j_iload C dX10_showsOf_109 rfl ?_
          refine j_iconst (v := 0) C dX10_showsOf_111 rfl ?_
          refine j_bipush (v := 100) C dX10_showsOf_112 rfl ?_
          refine j_callis C (c_X10_within _ _ _ _ _ _ _ ) dX10_showsOf_114 jm_RX10_321 ⟨by decide, by decide, by decide, by decide⟩ rfl (Nat.le_of_ble_eq_true rfl) (fun r z hz => ?_)
          obtain ⟨hr, hz⟩ := hz; have hr := hr.symm; have hz := hz.symm; subst hr; subst hz
          refine hret _ _ _ _ dX10_showsOf_117 rfl ?_
          refine ⟨?_, rfl⟩; simp [shS, gV, *]
        · skip
          refine j_iload_n C dX10_showsOf_73 rfl rfl ?_
          refine j_iconst (v := 4) C dX10_showsOf_74 rfl ?_
          refine j_icmp_ne (tgt := 86) C dX10_showsOf_75 (by decide) (fun c_75 => ?_) (fun c_75 => ?_)
          · skip
            refine j_iload_n C dX10_showsOf_86 rfl rfl ?_
            refine j_iconst (v := 5) C dX10_showsOf_87 rfl ?_
            refine j_icmp_ne (tgt := 105) C dX10_showsOf_88 (by decide) (fun c_88 => ?_) (fun c_88 => ?_)
            · skip
              refine j_iload C dX10_showsOf_105 rfl ?_
              refine j_istore (lv' := [(5, _), (4, _), (3, _), (0, _), (1, _), (2, _)]) C dX10_showsOf_107 (by decide) rfl ?_
              refine j_iload C dX10_showsOf_109 rfl ?_
              refine j_iconst (v := 0) C dX10_showsOf_111 rfl ?_
              refine j_bipush (v := 100) C dX10_showsOf_112 rfl ?_
              refine j_callis C (c_X10_within _ _ _ _ _ _ _ ) dX10_showsOf_114 jm_RX10_321 ⟨by decide, by decide, by decide, by decide⟩ rfl (Nat.le_of_ble_eq_true rfl) (fun r z hz => ?_)
              obtain ⟨hr, hz⟩ := hz; have hr := hr.symm; have hz := hz.symm; subst hr; subst hz
              refine hret _ _ _ _ dX10_showsOf_117 rfl ?_
              refine ⟨?_, rfl⟩; simp [shS, gV, *]
            · skip
              refine j_iload C dX10_showsOf_91 rfl ?_
              refine j_aload_n C dX10_showsOf_93 rfl rfl ?_
              refine j_get C dX10_showsOf_94 jf_RX10_29 (wO mO) rfl ?_
              refine j_iconst (v := 4) C dX10_showsOf_97 rfl ?_
              refine j_iload_n C dX10_showsOf_98 rfl rfl ?_
              refine j_imul C dX10_showsOf_99 ?_
              refine j_iald C (4 * i) dX10_showsOf_100 (wA mA6) (pk_mul 4 i) (by omega) (by decide) ?_
              refine j_iadd C dX10_showsOf_101 ?_
              refine j_goto (tgt := 107) C dX10_showsOf_102 (by decide) ?_
              refine j_istore (lv' := [(5, _), (4, _), (3, _), (0, _), (1, _), (2, _)]) C dX10_showsOf_107 (by decide) rfl ?_
              refine j_iload C dX10_showsOf_109 rfl ?_
              refine j_iconst (v := 0) C dX10_showsOf_111 rfl ?_
              refine j_bipush (v := 100) C dX10_showsOf_112 rfl ?_
              refine j_callis C (c_X10_within _ _ _ _ _ _ _ ) dX10_showsOf_114 jm_RX10_321 ⟨by decide, by decide, by decide, by decide⟩ rfl (Nat.le_of_ble_eq_true rfl) (fun r z hz => ?_)
              obtain ⟨hr, hz⟩ := hz; have hr := hr.symm; have hz := hz.symm; subst hr; subst hz
              refine hret _ _ _ _ dX10_showsOf_117 rfl ?_
              refine ⟨?_, rfl⟩; simp [shS, gV, *]
          · skip
            refine j_iload C dX10_showsOf_78 rfl ?_
            refine j_bipush (v := 20) C dX10_showsOf_80 rfl ?_
            refine j_iadd C dX10_showsOf_82 ?_
            refine j_goto (tgt := 107) C dX10_showsOf_83 (by decide) ?_
            refine j_istore (lv' := [(5, _), (4, _), (3, _), (0, _), (1, _), (2, _)]) C dX10_showsOf_107 (by decide) rfl ?_
            refine j_iload C dX10_showsOf_109 rfl ?_
            refine j_iconst (v := 0) C dX10_showsOf_111 rfl ?_
            refine j_bipush (v := 100) C dX10_showsOf_112 rfl ?_
            refine j_callis C (c_X10_within _ _ _ _ _ _ _ ) dX10_showsOf_114 jm_RX10_321 ⟨by decide, by decide, by decide, by decide⟩ rfl (Nat.le_of_ble_eq_true rfl) (fun r z hz => ?_)
            obtain ⟨hr, hz⟩ := hz; have hr := hr.symm; have hz := hz.symm; subst hr; subst hz
            refine hret _ _ _ _ dX10_showsOf_117 rfl ?_
            refine ⟨?_, rfl⟩; simp [shS, gV, *]
      · skip
        refine j_iload C dX10_showsOf_52 rfl ?_
        refine j_iconst (v := 2) C dX10_showsOf_54 rfl ?_
        refine j_idiv C dX10_showsOf_55 (by decide) ?_
        refine j_aload_n C dX10_showsOf_56 rfl rfl ?_
        refine j_get C dX10_showsOf_57 jf_RX10_29 (wO mO) rfl ?_
        refine j_iconst (v := 4) C dX10_showsOf_60 rfl ?_
        refine j_iload_n C dX10_showsOf_61 rfl rfl ?_
        refine j_imul C dX10_showsOf_62 ?_
        refine j_iald C (4 * i) dX10_showsOf_63 (wA mA6) (pk_mul 4 i) (by omega) (by decide) ?_
        refine j_isub C dX10_showsOf_64 ?_
        refine j_goto (tgt := 107) C dX10_showsOf_65 (by decide) ?_
        refine j_istore (lv' := [(5, _), (4, _), (3, _), (0, _), (1, _), (2, _)]) C dX10_showsOf_107 (by decide) rfl ?_
        refine j_iload C dX10_showsOf_109 rfl ?_
        refine j_iconst (v := 0) C dX10_showsOf_111 rfl ?_
        refine j_bipush (v := 100) C dX10_showsOf_112 rfl ?_
        refine j_callis C (c_X10_within _ _ _ _ _ _ _ ) dX10_showsOf_114 jm_RX10_321 ⟨by decide, by decide, by decide, by decide⟩ rfl (Nat.le_of_ble_eq_true rfl) (fun r z hz => ?_)
        obtain ⟨hr, hz⟩ := hz; have hr := hr.symm; have hz := hz.symm; subst hr; subst hz
        refine hret _ _ _ _ dX10_showsOf_117 rfl ?_
        refine ⟨?_, rfl⟩; simp [shS, gV, *]
    · skip
      refine j_iload C dX10_showsOf_40 rfl ?_
      refine j_iconst (v := 2) C dX10_showsOf_42 rfl ?_
      refine j_idiv C dX10_showsOf_43 (by decide) ?_
      refine j_goto (tgt := 107) C dX10_showsOf_44 (by decide) ?_
      refine j_istore (lv' := [(5, _), (4, _), (3, _), (0, _), (1, _), (2, _)]) C dX10_showsOf_107 (by decide) rfl ?_
      refine j_iload C dX10_showsOf_109 rfl ?_
      refine j_iconst (v := 0) C dX10_showsOf_111 rfl ?_
      refine j_bipush (v := 100) C dX10_showsOf_112 rfl ?_
      refine j_callis C (c_X10_within _ _ _ _ _ _ _ ) dX10_showsOf_114 jm_RX10_321 ⟨by decide, by decide, by decide, by decide⟩ rfl (Nat.le_of_ble_eq_true rfl) (fun r z hz => ?_)
      obtain ⟨hr, hz⟩ := hz; have hr := hr.symm; have hz := hz.symm; subst hr; subst hz
      refine hret _ _ _ _ dX10_showsOf_117 rfl ?_
      refine ⟨?_, rfl⟩; simp [shS, gV, *]
  · skip
    refine j_iload_n C dX10_showsOf_26 rfl rfl ?_
    refine j_goto (tgt := 33) C dX10_showsOf_27 (by decide) ?_
    refine j_istore (lv' := [(4, _), (3, _), (0, _), (1, _), (2, _)]) C dX10_showsOf_33 (by decide) rfl ?_
    refine j_iload_n C dX10_showsOf_35 rfl rfl ?_
    refine j_iconst (v := 1) C dX10_showsOf_36 rfl ?_
    refine j_icmp_ne (tgt := 47) C dX10_showsOf_37 (by decide) (fun c_37 => ?_) (fun c_37 => ?_)
    · skip
      refine j_iload_n C dX10_showsOf_47 rfl rfl ?_
      refine j_iconst (v := 3) C dX10_showsOf_48 rfl ?_
      refine j_icmp_ne (tgt := 68) C dX10_showsOf_49 (by decide) (fun c_49 => ?_) (fun c_49 => ?_)
      · skip
        refine j_iload_n C dX10_showsOf_68 rfl rfl ?_
        refine j_iconst (v := 2) C dX10_showsOf_69 rfl ?_
        refine j_icmp_eq (tgt := 78) C dX10_showsOf_70 (by decide) (fun c_70 => ?_) (fun c_70 => ?_)
        · skip
          refine j_iload C dX10_showsOf_78 rfl ?_
          refine j_bipush (v := 20) C dX10_showsOf_80 rfl ?_
          refine j_iadd C dX10_showsOf_82 ?_
          refine j_goto (tgt := 107) C dX10_showsOf_83 (by decide) ?_
          refine j_istore (lv' := [(5, _), (4, _), (3, _), (0, _), (1, _), (2, _)]) C dX10_showsOf_107 (by decide) rfl ?_
          refine j_iload C dX10_showsOf_109 rfl ?_
          refine j_iconst (v := 0) C dX10_showsOf_111 rfl ?_
          refine j_bipush (v := 100) C dX10_showsOf_112 rfl ?_
          refine j_callis C (c_X10_within _ _ _ _ _ _ _ ) dX10_showsOf_114 jm_RX10_321 ⟨by decide, by decide, by decide, by decide⟩ rfl (Nat.le_of_ble_eq_true rfl) (fun r z hz => ?_)
          obtain ⟨hr, hz⟩ := hz; have hr := hr.symm; have hz := hz.symm; subst hr; subst hz
          refine hret _ _ _ _ dX10_showsOf_117 rfl ?_
          refine ⟨?_, rfl⟩; simp [shS, gV, *]
        · skip
          refine j_iload_n C dX10_showsOf_73 rfl rfl ?_
          refine j_iconst (v := 4) C dX10_showsOf_74 rfl ?_
          refine j_icmp_ne (tgt := 86) C dX10_showsOf_75 (by decide) (fun c_75 => ?_) (fun c_75 => ?_)
          · skip
            refine j_iload_n C dX10_showsOf_86 rfl rfl ?_
            refine j_iconst (v := 5) C dX10_showsOf_87 rfl ?_
            refine j_icmp_ne (tgt := 105) C dX10_showsOf_88 (by decide) (fun c_88 => ?_) (fun c_88 => ?_)
            · skip
              refine j_iload C dX10_showsOf_105 rfl ?_
              refine j_istore (lv' := [(5, _), (4, _), (3, _), (0, _), (1, _), (2, _)]) C dX10_showsOf_107 (by decide) rfl ?_
              refine j_iload C dX10_showsOf_109 rfl ?_
              refine j_iconst (v := 0) C dX10_showsOf_111 rfl ?_
              refine j_bipush (v := 100) C dX10_showsOf_112 rfl ?_
              refine j_callis C (c_X10_within _ _ _ _ _ _ _ ) dX10_showsOf_114 jm_RX10_321 ⟨by decide, by decide, by decide, by decide⟩ rfl (Nat.le_of_ble_eq_true rfl) (fun r z hz => ?_)
              obtain ⟨hr, hz⟩ := hz; have hr := hr.symm; have hz := hz.symm; subst hr; subst hz
              refine hret _ _ _ _ dX10_showsOf_117 rfl ?_
              refine ⟨?_, rfl⟩; simp [shS, gV, *]
            · skip
              refine j_iload C dX10_showsOf_91 rfl ?_
              refine j_aload_n C dX10_showsOf_93 rfl rfl ?_
              refine j_get C dX10_showsOf_94 jf_RX10_29 (wO mO) rfl ?_
              refine j_iconst (v := 4) C dX10_showsOf_97 rfl ?_
              refine j_iload_n C dX10_showsOf_98 rfl rfl ?_
              refine j_imul C dX10_showsOf_99 ?_
              refine j_iald C (4 * i) dX10_showsOf_100 (wA mA6) (pk_mul 4 i) (by omega) (by decide) ?_
              refine j_iadd C dX10_showsOf_101 ?_
              refine j_goto (tgt := 107) C dX10_showsOf_102 (by decide) ?_
              refine j_istore (lv' := [(5, _), (4, _), (3, _), (0, _), (1, _), (2, _)]) C dX10_showsOf_107 (by decide) rfl ?_
              refine j_iload C dX10_showsOf_109 rfl ?_
              refine j_iconst (v := 0) C dX10_showsOf_111 rfl ?_
              refine j_bipush (v := 100) C dX10_showsOf_112 rfl ?_
              refine j_callis C (c_X10_within _ _ _ _ _ _ _ ) dX10_showsOf_114 jm_RX10_321 ⟨by decide, by decide, by decide, by decide⟩ rfl (Nat.le_of_ble_eq_true rfl) (fun r z hz => ?_)
              obtain ⟨hr, hz⟩ := hz; have hr := hr.symm; have hz := hz.symm; subst hr; subst hz
              refine hret _ _ _ _ dX10_showsOf_117 rfl ?_
              refine ⟨?_, rfl⟩; simp [shS, gV, *]
          · skip
            refine j_iload C dX10_showsOf_78 rfl ?_
            refine j_bipush (v := 20) C dX10_showsOf_80 rfl ?_
            refine j_iadd C dX10_showsOf_82 ?_
            refine j_goto (tgt := 107) C dX10_showsOf_83 (by decide) ?_
            refine j_istore (lv' := [(5, _), (4, _), (3, _), (0, _), (1, _), (2, _)]) C dX10_showsOf_107 (by decide) rfl ?_
            refine j_iload C dX10_showsOf_109 rfl ?_
            refine j_iconst (v := 0) C dX10_showsOf_111 rfl ?_
            refine j_bipush (v := 100) C dX10_showsOf_112 rfl ?_
            refine j_callis C (c_X10_within _ _ _ _ _ _ _ ) dX10_showsOf_114 jm_RX10_321 ⟨by decide, by decide, by decide, by decide⟩ rfl (Nat.le_of_ble_eq_true rfl) (fun r z hz => ?_)
            obtain ⟨hr, hz⟩ := hz; have hr := hr.symm; have hz := hz.symm; subst hr; subst hz
            refine hret _ _ _ _ dX10_showsOf_117 rfl ?_
            refine ⟨?_, rfl⟩; simp [shS, gV, *]
      · skip
        refine j_iload C dX10_showsOf_52 rfl ?_
        refine j_iconst (v := 2) C dX10_showsOf_54 rfl ?_
        refine j_idiv C dX10_showsOf_55 (by decide) ?_
        refine j_aload_n C dX10_showsOf_56 rfl rfl ?_
        refine j_get C dX10_showsOf_57 jf_RX10_29 (wO mO) rfl ?_
        refine j_iconst (v := 4) C dX10_showsOf_60 rfl ?_
        refine j_iload_n C dX10_showsOf_61 rfl rfl ?_
        refine j_imul C dX10_showsOf_62 ?_
        refine j_iald C (4 * i) dX10_showsOf_63 (wA mA6) (pk_mul 4 i) (by omega) (by decide) ?_
        refine j_isub C dX10_showsOf_64 ?_
        refine j_goto (tgt := 107) C dX10_showsOf_65 (by decide) ?_
        refine j_istore (lv' := [(5, _), (4, _), (3, _), (0, _), (1, _), (2, _)]) C dX10_showsOf_107 (by decide) rfl ?_
        refine j_iload C dX10_showsOf_109 rfl ?_
        refine j_iconst (v := 0) C dX10_showsOf_111 rfl ?_
        refine j_bipush (v := 100) C dX10_showsOf_112 rfl ?_
        refine j_callis C (c_X10_within _ _ _ _ _ _ _ ) dX10_showsOf_114 jm_RX10_321 ⟨by decide, by decide, by decide, by decide⟩ rfl (Nat.le_of_ble_eq_true rfl) (fun r z hz => ?_)
        obtain ⟨hr, hz⟩ := hz; have hr := hr.symm; have hz := hz.symm; subst hr; subst hz
        refine hret _ _ _ _ dX10_showsOf_117 rfl ?_
        refine ⟨?_, rfl⟩; simp [shS, gV, *]
    · skip
      refine j_iload C dX10_showsOf_40 rfl ?_
      refine j_iconst (v := 2) C dX10_showsOf_42 rfl ?_
      refine j_idiv C dX10_showsOf_43 (by decide) ?_
      refine j_goto (tgt := 107) C dX10_showsOf_44 (by decide) ?_
      refine j_istore (lv' := [(5, _), (4, _), (3, _), (0, _), (1, _), (2, _)]) C dX10_showsOf_107 (by decide) rfl ?_
      refine j_iload C dX10_showsOf_109 rfl ?_
      refine j_iconst (v := 0) C dX10_showsOf_111 rfl ?_
      refine j_bipush (v := 100) C dX10_showsOf_112 rfl ?_
      refine j_callis C (c_X10_within _ _ _ _ _ _ _ ) dX10_showsOf_114 jm_RX10_321 ⟨by decide, by decide, by decide, by decide⟩ rfl (Nat.le_of_ble_eq_true rfl) (fun r z hz => ?_)
      obtain ⟨hr, hz⟩ := hz; have hr := hr.symm; have hz := hz.symm; subst hr; subst hz
      refine hret _ _ _ _ dX10_showsOf_117 rfl ?_
      refine ⟨?_, rfl⟩; simp [shS, gV, *]
set_option maxHeartbeats 4000000 in
set_option maxRecDepth 100000 in
theorem c_X10_movesOf (l : Launch) (g : jG) (a : Nat → Nat) (x : mS) (p : Int32) (v : Int32) (i : Nat) (hp : p = nI i) (hi : i < 6) : Ci l g yX10_movesOf cX10_movesOf 4 .int 0 0 0 0 (mW g a) [.ref (a 0), .int p, .int v] x (fun r z => r = moS (x.1 5 i) v ∧ z = x) := by
  refine mk_i (by decide +kernel) rfl (fun KK hKl hKg C hin hret => ?_)
  subst hKl; subst hKg
  refine j_lv (lv' := [(0, _), (1, _), (2, _)]) rfl ?_
  subst hp
  refine j_aload_n C dX10_movesOf_0 rfl rfl ?_
  refine j_get C dX10_movesOf_1 jf_RX10_26 (wO mO) rfl ?_
  refine j_iload_n C dX10_movesOf_4 rfl rfl ?_
  refine j_iald C (i) dX10_movesOf_5 (wA mA5) (rfl) (hi) (by decide) ?_
  refine j_istore_n (lv' := [(3, _), (0, _), (1, _), (2, _)]) C dX10_movesOf_6 rfl (by decide) rfl ?_
  refine j_iload_n C dX10_movesOf_7 rfl rfl ?_
  refine j_iconst (v := 2) C dX10_movesOf_8 rfl ?_
  refine j_icmp_ne (tgt := 18) C dX10_movesOf_9 (by decide) (fun c_9 => ?_) (fun c_9 => ?_)
  · skip
    refine j_iload_n C dX10_movesOf_18 rfl rfl ?_
    refine j_iconst (v := 3) C dX10_movesOf_19 rfl ?_
    refine j_icmp_ne (tgt := 29) C dX10_movesOf_20 (by decide) (fun c_20 => ?_) (fun c_20 => ?_)
    · skip
      refine j_iload_n C dX10_movesOf_29 rfl rfl ?_
      refine j_iconst (v := 4) C dX10_movesOf_30 rfl ?_
      refine j_icmp_ne (tgt := 42) C dX10_movesOf_31 (by decide) (fun c_31 => ?_) (fun c_31 => ?_)
      · skip
        refine j_iload_n C dX10_movesOf_42 rfl rfl ?_
        refine j_iconst (v := 5) C dX10_movesOf_43 rfl ?_
        refine j_icmp_ne (tgt := 53) C dX10_movesOf_44 (by decide) (fun c_44 => ?_) (fun c_44 => ?_)
        · skip
          refine j_iload_n C dX10_movesOf_53 rfl rfl ?_
          refine hret _ _ _ _ dX10_movesOf_54 rfl ?_
          refine ⟨?_, rfl⟩; simp [moS, *, Int32.mul_comm]
        · skip
          refine j_iload_n C dX10_movesOf_47 rfl rfl ?_
          refine j_iconst (v := 2) C dX10_movesOf_48 rfl ?_
          refine j_idiv C dX10_movesOf_49 (by decide) ?_
          refine j_goto (tgt := 54) C dX10_movesOf_50 (by decide) ?_
          refine hret _ _ _ _ dX10_movesOf_54 rfl ?_
          refine ⟨?_, rfl⟩; simp [moS, *, Int32.mul_comm]
      · skip
        refine j_iconst (v := 2) C dX10_movesOf_34 rfl ?_
        refine j_iload_n C dX10_movesOf_35 rfl rfl ?_
        refine j_imul C dX10_movesOf_36 ?_
        refine j_iconst (v := 1) C dX10_movesOf_37 rfl ?_
        refine j_isub C dX10_movesOf_38 ?_
        refine j_goto (tgt := 54) C dX10_movesOf_39 (by decide) ?_
        refine hret _ _ _ _ dX10_movesOf_54 rfl ?_
        refine ⟨?_, rfl⟩; simp [moS, *, Int32.mul_comm]
    · skip
      refine j_iload_n C dX10_movesOf_23 rfl rfl ?_
      refine j_iconst (v := 1) C dX10_movesOf_24 rfl ?_
      refine j_iadd C dX10_movesOf_25 ?_
      refine j_goto (tgt := 54) C dX10_movesOf_26 (by decide) ?_
      refine hret _ _ _ _ dX10_movesOf_54 rfl ?_
      refine ⟨?_, rfl⟩; simp [moS, *, Int32.mul_comm]
  · skip
    refine j_iconst (v := 2) C dX10_movesOf_12 rfl ?_
    refine j_iload_n C dX10_movesOf_13 rfl rfl ?_
    refine j_imul C dX10_movesOf_14 ?_
    refine j_goto (tgt := 54) C dX10_movesOf_15 (by decide) ?_
    refine hret _ _ _ _ dX10_movesOf_54 rfl ?_
    refine ⟨?_, rfl⟩; simp [moS, *, Int32.mul_comm]
set_option maxHeartbeats 4000000 in
set_option maxRecDepth 100000 in
theorem c_X10_passes (l : Launch) (g : jG) (a : Nat → Nat) (x : mS) (p : Int32)  : Ci l g yX10_passes cX10_passes 2 .boolean 1 25 0 0 (mW g a) [.ref (a 0), .int p] x (fun r z => ((r = 1 ∧ pas (x.1 4 0) (x.1 4 1) p) ∨ (r = 0 ∧ ¬ pas (x.1 4 0) (x.1 4 1) p)) ∧ z = x) := by
  refine mk_i (by decide +kernel) rfl (fun KK hKl hKg C hin hret => ?_)
  subst hKl; subst hKg
  refine j_lv (lv' := [(0, _), (1, _)]) rfl ?_
  refine j_aload_n C dX10_passes_0 rfl rfl ?_
  refine j_get C dX10_passes_1 jf_RX10_23 (wO mO) rfl ?_
  refine j_iconst (v := 0) C dX10_passes_4 rfl ?_
  refine j_iald C (0) dX10_passes_5 (wA mA4) (rfl) (by decide) (by decide) ?_
  refine j_aload_n C dX10_passes_6 rfl rfl ?_
  refine j_get C dX10_passes_7 jf_RX10_23 (wO mO) rfl ?_
  refine j_iconst (v := 1) C dX10_passes_10 rfl ?_
  refine j_iald C (1) dX10_passes_11 (wA mA4) (rfl) (by decide) (by decide) ?_
  refine j_icmp_ge (tgt := 37) C dX10_passes_12 (by decide) (fun c_1 => ?_) (fun c_1 => ?_)
  · skip
    refine j_iload_n C dX10_passes_37 rfl rfl ?_
    refine j_i2l C dX10_passes_38 ?_
    refine j_aload_n C dX10_passes_39 rfl rfl ?_
    refine j_get C dX10_passes_40 jf_RX10_23 (wO mO) rfl ?_
    refine j_iconst (v := 1) C dX10_passes_43 rfl ?_
    refine j_iald C (1) dX10_passes_44 (wA mA4) (rfl) (by decide) (by decide) ?_
    refine j_i2l C dX10_passes_45 ?_
    refine j_aload_n C dX10_passes_46 rfl rfl ?_
    refine j_get C dX10_passes_47 jf_RX10_23 (wO mO) rfl ?_
    refine j_iconst (v := 0) C dX10_passes_50 rfl ?_
    refine j_iald C (0) dX10_passes_51 (wA mA4) (rfl) (by decide) (by decide) ?_
    refine j_i2l C dX10_passes_52 ?_
    refine j_callis C (c_X10_in _ _ _ _ _ _ _ ) dX10_passes_53 jm_RX10_73 ⟨by decide, by decide, by decide, by decide⟩ rfl (Nat.le_of_ble_eq_true rfl) (fun r z hz => ?_)
    obtain ⟨hb, hz⟩ := hz; have hz := hz.symm; subst hz
    rcases hb with ⟨rfl, b_2⟩ | ⟨rfl, b_2⟩
    · skip
      refine hret _ _ _ _ dX10_passes_56 (by first | rfl | exact bI_n) ?_
      exact ⟨Or.inl ⟨rfl, by simp only [Int32.lt_iff_toInt_lt, Int32.le_iff_toInt_le, ← Int32.toInt_inj, Int32.reduceToInt, Int64.lt_iff_toInt_lt, Int64.le_iff_toInt_le, Int32.toInt_toInt64, Int64.reduceToInt, pas] at c_1 b_2 ⊢; omega⟩, rfl⟩
    · skip
      refine hret _ _ _ _ dX10_passes_56 (by first | rfl | exact bI_n) ?_
      exact ⟨Or.inr ⟨rfl, by simp only [Int32.lt_iff_toInt_lt, Int32.le_iff_toInt_le, ← Int32.toInt_inj, Int32.reduceToInt, Int64.lt_iff_toInt_lt, Int64.le_iff_toInt_le, Int32.toInt_toInt64, Int64.reduceToInt, pas] at c_1 b_2 ⊢; omega⟩, rfl⟩
  · skip
    refine j_iload_n C dX10_passes_15 rfl rfl ?_
    refine j_i2l C dX10_passes_16 ?_
    refine j_aload_n C dX10_passes_17 rfl rfl ?_
    refine j_get C dX10_passes_18 jf_RX10_23 (wO mO) rfl ?_
    refine j_iconst (v := 0) C dX10_passes_21 rfl ?_
    refine j_iald C (0) dX10_passes_22 (wA mA4) (rfl) (by decide) (by decide) ?_
    refine j_i2l C dX10_passes_23 ?_
    refine j_aload_n C dX10_passes_24 rfl rfl ?_
    refine j_get C dX10_passes_25 jf_RX10_23 (wO mO) rfl ?_
    refine j_iconst (v := 1) C dX10_passes_28 rfl ?_
    refine j_iald C (1) dX10_passes_29 (wA mA4) (rfl) (by decide) (by decide) ?_
    refine j_i2l C dX10_passes_30 ?_
    refine j_callis C (c_X10_in _ _ _ _ _ _ _ ) dX10_passes_31 jm_RX10_73 ⟨by decide, by decide, by decide, by decide⟩ rfl (Nat.le_of_ble_eq_true rfl) (fun r z hz => ?_)
    obtain ⟨hb, hz⟩ := hz; have hz := hz.symm; subst hz
    rcases hb with ⟨rfl, b_3⟩ | ⟨rfl, b_3⟩
    · skip
      refine j_goto (tgt := 56) C dX10_passes_34 (by decide) ?_
      refine hret _ _ _ _ dX10_passes_56 (by first | rfl | exact bI_n) ?_
      exact ⟨Or.inl ⟨rfl, by simp only [Int32.lt_iff_toInt_lt, Int32.le_iff_toInt_le, ← Int32.toInt_inj, Int32.reduceToInt, Int64.lt_iff_toInt_lt, Int64.le_iff_toInt_le, Int32.toInt_toInt64, Int64.reduceToInt, pas] at c_1 b_3 ⊢; omega⟩, rfl⟩
    · skip
      refine j_goto (tgt := 56) C dX10_passes_34 (by decide) ?_
      refine hret _ _ _ _ dX10_passes_56 (by first | rfl | exact bI_n) ?_
      exact ⟨Or.inr ⟨rfl, by simp only [Int32.lt_iff_toInt_lt, Int32.le_iff_toInt_le, ← Int32.toInt_inj, Int32.reduceToInt, Int64.lt_iff_toInt_lt, Int64.le_iff_toInt_le, Int32.toInt_toInt64, Int64.reduceToInt, pas] at c_1 b_3 ⊢; omega⟩, rfl⟩
set_option maxHeartbeats 4000000 in
set_option maxRecDepth 100000 in
theorem c_X10_gathers (l : Launch) (g : jG) (a : Nat → Nat) (x : mS) (p : Int32) (m t ru : Nat) (B : Nat → Nat → Int32) (N : Nat → Nat) (hX : inM x m t ru B N) (i : Nat) (hp : p = nI i) (hi : i < m) : Cv l g yX10_gathers cX10_gathers 4 43 955 0 0 (mW g a) [.ref (a 0), .int p] x (fun z => mK x z ∧ (∀ d, d < 30 → z.1 7 d = whS (tM B N ru) (gV x i) (x.1 4 0) d) ∧ ∀ d, d < 30 → z.1 8 d = (lkS (tM B N ru) (gV x i) (x.1 4 0) (x.1 4 0) (x.1 4 1) (x.1 4 2)) d) := by
  refine mk_v (by decide +kernel) rfl (fun KK hKl hKg C hin hret => ?_)
  subst hKl; subst hKg
  refine j_lv (lv' := [(0, _), (1, _)]) rfl ?_
  subst hp
  have hi6 : i < 6 := Nat.lt_of_lt_of_le hi hX.1.2
  have htg := hX.2.2.2.2.1 ru hX.2.2.1.2
  have hr2 : 0 ≤ gV x i 2 ∧ gV x i 2 ≤ 19 := hX.2.2.2.2.2 i hi
  refine j_aload_n C dX10_gathers_0 rfl rfl ?_
  refine j_get C dX10_gathers_1 jf_RX10_29 (wO mO) rfl ?_
  refine j_iconst (v := 4) C dX10_gathers_4 rfl ?_
  refine j_iload_n C dX10_gathers_5 rfl rfl ?_
  refine j_imul C dX10_gathers_6 ?_
  refine j_iconst (v := 1) C dX10_gathers_7 rfl ?_
  refine j_iadd C dX10_gathers_8 ?_
  refine j_iald C (4 * i + 1) dX10_gathers_9 (wA mA6) ((congrArg (· + nI 1) (pk_mul 4 i)).trans (nI_add _ _)) (by omega) (by decide) ?_
  refine j_istore_n (lv' := [(2, _), (0, _), (1, _)]) C dX10_gathers_10 rfl (by decide) rfl ?_
  refine j_iconst (v := 0) C dX10_gathers_11 rfl ?_
  refine j_istore_n (lv' := [(3, _), (2, _), (0, _), (1, _)]) C dX10_gathers_12 rfl (by decide) rfl ?_
  have L_13 : ∀ k : Nat, ∀ (d : Nat) (x' : mS), d ≤ 30 → 30 < d + k → mK x x' → (∀ e, e < d → x'.1 7 e = whS (tM B N ru) (gV x i) (x.1 4 0) e) → (∀ e, e < d → x'.1 8 e = (lkS (tM B N ru) (gV x i) (x.1 4 0) (x.1 4 0) (x.1 4 1) (x.1 4 2)) e) → J KK (mW (kG KK) a) 0 0 x' [(0, .ref (a 0)), (1, .int (nI i)), (2, .int (plS (tM B N ru) (gV x i) (x.1 4 0) d)), (3, .int (nI d))] 13 [] := by
    intro k
    induction k with
    | zero => intro d x' h1 hk hK hA hB; omega
    | succ k ih =>
      intro d x' h1 hk hK hA hB
      have e_d : (nI d).toInt = d := nI_toInt (by omega)
      have hpl := plS_in (T := (tM B N ru)) (f := x.1 4 0) hr2 d
      refine j_iload_n C dX10_gathers_13 rfl rfl ?_
      refine j_bipush (v := 30) C dX10_gathers_14 rfl ?_
      refine j_icmp_ge (tgt := 108) C dX10_gathers_16 (by decide) (fun c_16 => ?_) (fun c_16 => ?_)
      · skip
        have hd : d = 30 := by simp only [Int32.lt_iff_toInt_lt, Int32.le_iff_toInt_le, ← Int32.toInt_inj, Int32.reduceToInt, e_d] at c_16; omega
        refine hret _ _ _ dX10_gathers_108 ?_
        subst hd; exact ⟨hK, hA, hB⟩
      · skip
        have hd : d < 30 := by simp only [Int32.lt_iff_toInt_lt, Int32.le_iff_toInt_le, ← Int32.toInt_inj, Int32.reduceToInt, e_d] at c_16; omega
        refine j_aload_n C dX10_gathers_19 rfl rfl ?_
        refine j_get C dX10_gathers_20 jf_RX10_32 (wO mO) rfl ?_
        refine j_iload_n C dX10_gathers_23 rfl rfl ?_
        refine j_iload_n C dX10_gathers_24 rfl rfl ?_
        refine j_aload_n C dX10_gathers_25 rfl rfl ?_
        refine j_iload_n C dX10_gathers_26 rfl rfl ?_
        refine j_calliv C (c_X10_lastsOf _ _ _ _ _ i rfl hi6) dX10_gathers_27 jm_RX10_106 ⟨_, _, _, _, wO mO, rfl, rfl⟩ ⟨by decide, by decide, by decide, by decide⟩ rfl (Nat.le_of_ble_eq_true rfl) (fun r_27 z_27 hz_27 => ?_)
        obtain ⟨hr, hz⟩ := hz_27; have hz := hz.symm; subst hz; rw [la_gV, mK_gV hK] at hr; have hr := hr.symm; subst hr
        refine j_icmp_ge (tgt := 37) C dX10_gathers_30 (by decide) (fun c_30 => ?_) (fun c_30 => ?_)
        · skip
          have hwh : whS (tM B N ru) (gV x i) (x.1 4 0) d = -1 := by rw [whS, if_pos c_30]
          have hK1 : mK x (mU x' 7 d (-1)) := mK_7 hK
          refine j_iconst (v := -1) C dX10_gathers_37 rfl ?_
          refine j_iast C (d) dX10_gathers_38 (wA mA7) (rfl) (hd) (by decide) (sMa mA7 _ _) ?_
          refine j_aload_n C dX10_gathers_39 rfl rfl ?_
          refine j_get C dX10_gathers_40 jf_RX10_35 (wO mO) rfl ?_
          refine j_iload_n C dX10_gathers_43 rfl rfl ?_
          refine j_aload_n C dX10_gathers_44 rfl rfl ?_
          refine j_get C dX10_gathers_45 jf_RX10_32 (wO mO) rfl ?_
          refine j_iload_n C dX10_gathers_48 rfl rfl ?_
          refine j_iald C (d) dX10_gathers_49 (wA mA7) (rfl) (hd) (by decide) ?_
          refine j_iconst (v := -1) C dX10_gathers_50 rfl ?_
          refine j_icmp_eq (tgt := 78) C dX10_gathers_51 (by decide) (fun c_51 => ?_) (fun c_51 => ?_)
          · skip
            skip
            refine j_iconst (v := 0) C dX10_gathers_78 rfl ?_
            refine j_iast C (d) dX10_gathers_79 (wA mA8) (rfl) (hd) (by decide) (sMa mA8 _ _) ?_
            refine j_st (y := mU (mU x' 7 d (-1)) 8 d 0) rfl ?_
            have hK3 := mK_8 (j := d) (v := 0) hK1
            refine j_iload_n C dX10_gathers_80 rfl rfl ?_
            refine j_aload_n C dX10_gathers_81 rfl rfl ?_
            refine j_iload_n C dX10_gathers_82 rfl rfl ?_
            refine j_aload_n C dX10_gathers_83 rfl rfl ?_
            refine j_iconst (v := 1) C dX10_gathers_84 rfl ?_
            refine j_iload_n C dX10_gathers_85 rfl rfl ?_
            refine j_iload_n C dX10_gathers_86 rfl rfl ?_
            refine j_iload_n C dX10_gathers_87 rfl rfl ?_
            refine j_calliv C (c_X10_asks _ _ _ _ _ _ _ _ (B ru) (N ru) ru i ((hK3.2 4 (by decide)).trans hX.2.2.1.1) (tgM_h htg (hK3.1 1 (by decide) (by decide) (by decide)) (hK3.1 2 (by decide) (by decide) (by decide))) rfl hi6 hpl (by rw [mK_4 hK3]; exact hX.2.2.2.1.1)) dX10_gathers_88 jm_RX10_328 ⟨_, _, _, _, wO mO, rfl, rfl⟩ ⟨by decide, by decide, by decide, by decide⟩ rfl (Nat.le_of_ble_eq_true rfl) (fun r_88 z_88 hz_88 => ?_)
            obtain ⟨hH_88, hr_88⟩ := hz_88
            have hK9 : mK x z_88 := mK_t hK3 (mK_h hH_88)
            rw [mK_gV hK3, mK_4 hK3] at hr_88
            refine j_calliv C (c_X10_movesOf _ _ _ _ _ _ i rfl hi6) dX10_gathers_91 jm_RX10_335 ⟨_, _, _, _, wO mO, rfl, rfl⟩ ⟨by decide, by decide, by decide, by decide⟩ rfl (Nat.le_of_ble_eq_true rfl) (fun r_91 z_91 hz_91 => ?_)
            obtain ⟨hr, hz⟩ := hz_91; have hz := hz.symm; subst hz; rw [hK9.1 5 (by decide) (by decide) (by decide), hr_88] at hr; have hr := hr.symm; subst hr
            refine j_iadd C dX10_gathers_94 ?_
            refine j_iconst (v := 0) C dX10_gathers_95 rfl ?_
            refine j_bipush (v := 19) C dX10_gathers_96 rfl ?_
            refine j_callis C (c_X10_within _ _ _ _ _ _ _ ) dX10_gathers_98 jm_RX10_321 ⟨by decide, by decide, by decide, by decide⟩ rfl (Nat.le_of_ble_eq_true rfl) (fun r_98 z_98 hz_98 => ?_)
            obtain ⟨hr, hz⟩ := hz_98; have hz := hz.symm; subst hz
            have hr9 : r_98 = (plS (tM B N ru) (gV x i) (x.1 4 0) (d + 1)) := hr
            subst hr9
            refine j_istore_n (lv' := [(2, _), (0, _), (1, _), (3, _)]) C dX10_gathers_101 rfl (by decide) rfl ?_
            have hw7 : z_88.1 7 d = whS (tM B N ru) (gV x i) (x.1 4 0) d := by rw [mH_k hH_88 7 (by decide), mU_1, uM_ne (by decide), mU_1, uM_s, hwh]
            have h7 : ∀ e, e ≠ d → z_88.1 7 e = x'.1 7 e := fun e he => by rw [mH_k hH_88 7 (by decide), mU_1, uM_ne (by decide), mU_1, uM_n he]
            have h8 : ∀ e, e ≠ d → z_88.1 8 e = x'.1 8 e := fun e he => by rw [mH_k hH_88 8 (by decide), mU_1, uM_n he, mU_1, uM_ne (by decide)]
            have hw8 : z_88.1 8 d = (lkS (tM B N ru) (gV x i) (x.1 4 0) (x.1 4 0) (x.1 4 1) (x.1 4 2)) d := by
              rw [mH_k hH_88 8 (by decide), mU_1, uM_s, lkS, if_pos hwh]
            refine j_iinc (lv' := [(3, _), (2, _), (0, _), (1, _)]) (v := nI (d + 1)) C dX10_gathers_102 rfl (j_inc1 d) (by decide) rfl ?_
            refine j_goto (tgt := 13) C dX10_gathers_105 (by decide) ?_
            refine j_lv (lv' := [(0, _), (1, _), (2, _), (3, _)]) rfl ?_
            exact ih (d + 1) _ (by omega) (by omega) hK9 (fun e he => by
              by_cases h : e = d
              · subst h; exact hw7
              · rw [h7 e h]; exact hA e (by omega)) (fun e he => by
              by_cases h : e = d
              · subst h; exact hw8
              · rw [h8 e h]; exact hB e (by omega))
          · skip
            exact absurd (by rw [mU_1, uM_s]) c_51
        · skip
          have hwh : whS (tM B N ru) (gV x i) (x.1 4 0) d = (plS (tM B N ru) (gV x i) (x.1 4 0) d) := by rw [whS, if_neg c_30]
          have hK1 : mK x (mU x' 7 d (plS (tM B N ru) (gV x i) (x.1 4 0) d)) := mK_7 hK
          refine j_iload_n C dX10_gathers_33 rfl rfl ?_
          refine j_goto (tgt := 38) C dX10_gathers_34 (by decide) ?_
          refine j_iast C (d) dX10_gathers_38 (wA mA7) (rfl) (hd) (by decide) (sMa mA7 _ _) ?_
          refine j_aload_n C dX10_gathers_39 rfl rfl ?_
          refine j_get C dX10_gathers_40 jf_RX10_35 (wO mO) rfl ?_
          refine j_iload_n C dX10_gathers_43 rfl rfl ?_
          refine j_aload_n C dX10_gathers_44 rfl rfl ?_
          refine j_get C dX10_gathers_45 jf_RX10_32 (wO mO) rfl ?_
          refine j_iload_n C dX10_gathers_48 rfl rfl ?_
          refine j_iald C (d) dX10_gathers_49 (wA mA7) (rfl) (hd) (by decide) ?_
          refine j_iconst (v := -1) C dX10_gathers_50 rfl ?_
          refine j_icmp_eq (tgt := 78) C dX10_gathers_51 (by decide) (fun c_51 => ?_) (fun c_51 => ?_)
          · skip
            exact absurd ((by rw [mU_1, uM_s] : _ = _).symm.trans c_51) (pl_ne hpl)
          · skip
            skip
            refine j_aload_n C dX10_gathers_54 rfl rfl ?_
            refine j_iload_n C dX10_gathers_55 rfl rfl ?_
            refine j_calliv C (c_X10_passes _ _ _ _ _ ) dX10_gathers_56 jm_RX10_325 ⟨_, _, _, _, wO mO, rfl, rfl⟩ ⟨by decide, by decide, by decide, by decide⟩ rfl (Nat.le_of_ble_eq_true rfl) (fun r z hz => ?_)
            obtain ⟨hb, hz⟩ := hz; have hz := hz.symm; subst hz
            rcases hb with ⟨rfl, b_56⟩ | ⟨rfl, b_56⟩
            · skip
              refine j_if_eq (tgt := 78) C dX10_gathers_59 (by decide) (fun c => absurd c (by decide)) (fun _ => ?_)
              refine j_aload_n C dX10_gathers_62 rfl rfl ?_
              refine j_iload_n C dX10_gathers_63 rfl rfl ?_
              refine j_aload_n C dX10_gathers_64 rfl rfl ?_
              refine j_iconst (v := 0) C dX10_gathers_65 rfl ?_
              refine j_iload_n C dX10_gathers_66 rfl rfl ?_
              refine j_iload_n C dX10_gathers_67 rfl rfl ?_
              refine j_iload_n C dX10_gathers_68 rfl rfl ?_
              refine j_calliv C (c_X10_asks _ _ _ _ _ _ _ _ (B ru) (N ru) ru i ((hK1.2 4 (by decide)).trans hX.2.2.1.1) (tgM_h htg (hK1.1 1 (by decide) (by decide) (by decide)) (hK1.1 2 (by decide) (by decide) (by decide))) rfl hi6 hpl (by rw [mK_4 hK1]; exact hX.2.2.2.1.1)) dX10_gathers_69 jm_RX10_328 ⟨_, _, _, _, wO mO, rfl, rfl⟩ ⟨by decide, by decide, by decide, by decide⟩ rfl (Nat.le_of_ble_eq_true rfl) (fun r_69 z_69 hz_69 => ?_)
              obtain ⟨hH_69, hr_69⟩ := hz_69
              have hK2 : mK x z_69 := mK_t hK1 (mK_h hH_69)
              rw [mK_gV hK1, mK_4 hK1] at hr_69
              refine j_calliv C (c_X10_showsOf _ _ _ _ _ _ i rfl hi6) dX10_gathers_72 jm_RX10_332 ⟨_, _, _, _, wO mO, rfl, rfl⟩ ⟨by decide, by decide, by decide, by decide⟩ rfl (Nat.le_of_ble_eq_true rfl) (fun r_72 z_72 hz_72 => ?_)
              obtain ⟨hr, hz⟩ := hz_72; have hz := hz.symm; subst hz; rw [mK_gV hK2, mK_4 hK2, hr_69] at hr; have hr := hr.symm; subst hr
              refine j_goto (tgt := 79) C dX10_gathers_75 (by decide) ?_
              refine j_iast C (d) dX10_gathers_79 (wA mA8) (rfl) (hd) (by decide) (sMa mA8 _ _) ?_
              refine j_st (y := mU z_69 8 d (shS (gV x i) (asS (tM B N ru) (gV x i) (plS (tM B N ru) (gV x i) (x.1 4 0) d) (nI d) (x.1 4 0) 0) (x.1 4 2))) rfl ?_
              have hK3 := mK_8 (j := d) (v := shS (gV x i) (asS (tM B N ru) (gV x i) (plS (tM B N ru) (gV x i) (x.1 4 0) d) (nI d) (x.1 4 0) 0) (x.1 4 2)) hK2
              refine j_iload_n C dX10_gathers_80 rfl rfl ?_
              refine j_aload_n C dX10_gathers_81 rfl rfl ?_
              refine j_iload_n C dX10_gathers_82 rfl rfl ?_
              refine j_aload_n C dX10_gathers_83 rfl rfl ?_
              refine j_iconst (v := 1) C dX10_gathers_84 rfl ?_
              refine j_iload_n C dX10_gathers_85 rfl rfl ?_
              refine j_iload_n C dX10_gathers_86 rfl rfl ?_
              refine j_iload_n C dX10_gathers_87 rfl rfl ?_
              refine j_calliv C (c_X10_asks _ _ _ _ _ _ _ _ (B ru) (N ru) ru i ((hK3.2 4 (by decide)).trans hX.2.2.1.1) (tgM_h htg (hK3.1 1 (by decide) (by decide) (by decide)) (hK3.1 2 (by decide) (by decide) (by decide))) rfl hi6 hpl (by rw [mK_4 hK3]; exact hX.2.2.2.1.1)) dX10_gathers_88 jm_RX10_328 ⟨_, _, _, _, wO mO, rfl, rfl⟩ ⟨by decide, by decide, by decide, by decide⟩ rfl (Nat.le_of_ble_eq_true rfl) (fun r_88 z_88 hz_88 => ?_)
              obtain ⟨hH_88, hr_88⟩ := hz_88
              have hK9 : mK x z_88 := mK_t hK3 (mK_h hH_88)
              rw [mK_gV hK3, mK_4 hK3] at hr_88
              refine j_calliv C (c_X10_movesOf _ _ _ _ _ _ i rfl hi6) dX10_gathers_91 jm_RX10_335 ⟨_, _, _, _, wO mO, rfl, rfl⟩ ⟨by decide, by decide, by decide, by decide⟩ rfl (Nat.le_of_ble_eq_true rfl) (fun r_91 z_91 hz_91 => ?_)
              obtain ⟨hr, hz⟩ := hz_91; have hz := hz.symm; subst hz; rw [hK9.1 5 (by decide) (by decide) (by decide), hr_88] at hr; have hr := hr.symm; subst hr
              refine j_iadd C dX10_gathers_94 ?_
              refine j_iconst (v := 0) C dX10_gathers_95 rfl ?_
              refine j_bipush (v := 19) C dX10_gathers_96 rfl ?_
              refine j_callis C (c_X10_within _ _ _ _ _ _ _ ) dX10_gathers_98 jm_RX10_321 ⟨by decide, by decide, by decide, by decide⟩ rfl (Nat.le_of_ble_eq_true rfl) (fun r_98 z_98 hz_98 => ?_)
              obtain ⟨hr, hz⟩ := hz_98; have hz := hz.symm; subst hz
              have hr9 : r_98 = (plS (tM B N ru) (gV x i) (x.1 4 0) (d + 1)) := hr
              subst hr9
              refine j_istore_n (lv' := [(2, _), (0, _), (1, _), (3, _)]) C dX10_gathers_101 rfl (by decide) rfl ?_
              have hw7 : z_88.1 7 d = whS (tM B N ru) (gV x i) (x.1 4 0) d := by rw [mH_k hH_88 7 (by decide), mU_1, uM_ne (by decide), mH_k hH_69 7 (by decide), mU_1, uM_s, hwh]
              have h7 : ∀ e, e ≠ d → z_88.1 7 e = x'.1 7 e := fun e he => by rw [mH_k hH_88 7 (by decide), mU_1, uM_ne (by decide), mH_k hH_69 7 (by decide), mU_1, uM_n he]
              have h8 : ∀ e, e ≠ d → z_88.1 8 e = x'.1 8 e := fun e he => by rw [mH_k hH_88 8 (by decide), mU_1, uM_n he, mH_k hH_69 8 (by decide), mU_1, uM_ne (by decide)]
              have hw8 : z_88.1 8 d = (lkS (tM B N ru) (gV x i) (x.1 4 0) (x.1 4 0) (x.1 4 1) (x.1 4 2)) d := by
                rw [mH_k hH_88 8 (by decide), mU_1, uM_s, lkS, hwh, if_neg (pl_ne hpl), if_pos (by rw [mU_1, uM_ne (by decide), mK_4 hK] at b_56; exact b_56)]
                rfl
              refine j_iinc (lv' := [(3, _), (2, _), (0, _), (1, _)]) (v := nI (d + 1)) C dX10_gathers_102 rfl (j_inc1 d) (by decide) rfl ?_
              refine j_goto (tgt := 13) C dX10_gathers_105 (by decide) ?_
              refine j_lv (lv' := [(0, _), (1, _), (2, _), (3, _)]) rfl ?_
              exact ih (d + 1) _ (by omega) (by omega) hK9 (fun e he => by
                by_cases h : e = d
                · subst h; exact hw7
                · rw [h7 e h]; exact hA e (by omega)) (fun e he => by
                by_cases h : e = d
                · subst h; exact hw8
                · rw [h8 e h]; exact hB e (by omega))
            · skip
              refine j_if_eq (tgt := 78) C dX10_gathers_59 (by decide) (fun _ => ?_) (fun c => absurd (by decide) c)
              refine j_iconst (v := 0) C dX10_gathers_78 rfl ?_
              refine j_iast C (d) dX10_gathers_79 (wA mA8) (rfl) (hd) (by decide) (sMa mA8 _ _) ?_
              refine j_st (y := mU (mU x' 7 d (plS (tM B N ru) (gV x i) (x.1 4 0) d)) 8 d 0) rfl ?_
              have hK3 := mK_8 (j := d) (v := 0) hK1
              refine j_iload_n C dX10_gathers_80 rfl rfl ?_
              refine j_aload_n C dX10_gathers_81 rfl rfl ?_
              refine j_iload_n C dX10_gathers_82 rfl rfl ?_
              refine j_aload_n C dX10_gathers_83 rfl rfl ?_
              refine j_iconst (v := 1) C dX10_gathers_84 rfl ?_
              refine j_iload_n C dX10_gathers_85 rfl rfl ?_
              refine j_iload_n C dX10_gathers_86 rfl rfl ?_
              refine j_iload_n C dX10_gathers_87 rfl rfl ?_
              refine j_calliv C (c_X10_asks _ _ _ _ _ _ _ _ (B ru) (N ru) ru i ((hK3.2 4 (by decide)).trans hX.2.2.1.1) (tgM_h htg (hK3.1 1 (by decide) (by decide) (by decide)) (hK3.1 2 (by decide) (by decide) (by decide))) rfl hi6 hpl (by rw [mK_4 hK3]; exact hX.2.2.2.1.1)) dX10_gathers_88 jm_RX10_328 ⟨_, _, _, _, wO mO, rfl, rfl⟩ ⟨by decide, by decide, by decide, by decide⟩ rfl (Nat.le_of_ble_eq_true rfl) (fun r_88 z_88 hz_88 => ?_)
              obtain ⟨hH_88, hr_88⟩ := hz_88
              have hK9 : mK x z_88 := mK_t hK3 (mK_h hH_88)
              rw [mK_gV hK3, mK_4 hK3] at hr_88
              refine j_calliv C (c_X10_movesOf _ _ _ _ _ _ i rfl hi6) dX10_gathers_91 jm_RX10_335 ⟨_, _, _, _, wO mO, rfl, rfl⟩ ⟨by decide, by decide, by decide, by decide⟩ rfl (Nat.le_of_ble_eq_true rfl) (fun r_91 z_91 hz_91 => ?_)
              obtain ⟨hr, hz⟩ := hz_91; have hz := hz.symm; subst hz; rw [hK9.1 5 (by decide) (by decide) (by decide), hr_88] at hr; have hr := hr.symm; subst hr
              refine j_iadd C dX10_gathers_94 ?_
              refine j_iconst (v := 0) C dX10_gathers_95 rfl ?_
              refine j_bipush (v := 19) C dX10_gathers_96 rfl ?_
              refine j_callis C (c_X10_within _ _ _ _ _ _ _ ) dX10_gathers_98 jm_RX10_321 ⟨by decide, by decide, by decide, by decide⟩ rfl (Nat.le_of_ble_eq_true rfl) (fun r_98 z_98 hz_98 => ?_)
              obtain ⟨hr, hz⟩ := hz_98; have hz := hz.symm; subst hz
              have hr9 : r_98 = (plS (tM B N ru) (gV x i) (x.1 4 0) (d + 1)) := hr
              subst hr9
              refine j_istore_n (lv' := [(2, _), (0, _), (1, _), (3, _)]) C dX10_gathers_101 rfl (by decide) rfl ?_
              have hw7 : z_88.1 7 d = whS (tM B N ru) (gV x i) (x.1 4 0) d := by rw [mH_k hH_88 7 (by decide), mU_1, uM_ne (by decide), mU_1, uM_s, hwh]
              have h7 : ∀ e, e ≠ d → z_88.1 7 e = x'.1 7 e := fun e he => by rw [mH_k hH_88 7 (by decide), mU_1, uM_ne (by decide), mU_1, uM_n he]
              have h8 : ∀ e, e ≠ d → z_88.1 8 e = x'.1 8 e := fun e he => by rw [mH_k hH_88 8 (by decide), mU_1, uM_n he, mU_1, uM_ne (by decide)]
              have hw8 : z_88.1 8 d = (lkS (tM B N ru) (gV x i) (x.1 4 0) (x.1 4 0) (x.1 4 1) (x.1 4 2)) d := by
                rw [mH_k hH_88 8 (by decide), mU_1, uM_s, lkS, hwh, if_neg (pl_ne hpl), if_neg (by rw [mU_1, uM_ne (by decide), mK_4 hK] at b_56; exact b_56)]
              refine j_iinc (lv' := [(3, _), (2, _), (0, _), (1, _)]) (v := nI (d + 1)) C dX10_gathers_102 rfl (j_inc1 d) (by decide) rfl ?_
              refine j_goto (tgt := 13) C dX10_gathers_105 (by decide) ?_
              refine j_lv (lv' := [(0, _), (1, _), (2, _), (3, _)]) rfl ?_
              exact ih (d + 1) _ (by omega) (by omega) hK9 (fun e he => by
                by_cases h : e = d
                · subst h; exact hw7
                · rw [h7 e h]; exact hA e (by omega)) (fun e he => by
                by_cases h : e = d
                · subst h; exact hw8
                · rw [h8 e h]; exact hB e (by omega))
  refine j_lv (lv' := [(0, _), (1, _), (2, _), (3, _)]) rfl ?_
  exact L_13 31 0 x (by omega) (by omega) mK_r (fun e he => absurd he (by omega)) (fun e he => absurd he (by omega))
set_option maxHeartbeats 4000000 in
set_option maxRecDepth 100000 in
theorem c_X10_mindsOn (l : Launch) (g : jG) (a : Nat → Nat) (x : mS) (p : Int32) (q : Int32) (m t ru : Nat) (B : Nat → Nat → Int32) (N : Nat → Nat) (hX : inM x m t ru B N) (i d : Nat) (hp : p = nI i) (hi : i < m) (hq : q = nI d) (hd : d < 30) (hpl : ¬ x.1 7 d = -1 → 0 ≤ x.1 7 d ∧ x.1 7 d ≤ 19) : Ci l g yX10_mindsOn cX10_mindsOn 3 .int 43 955 0 0 (mW g a) [.ref (a 0), .int p, .int q] x (fun r z => mH x z ∧ r = if x.1 7 d = -1 then 0 else asS (tM B N ru) (gV x i) (x.1 7 d) (nI d) (x.1 4 0) 2) := by
  refine mk_i (by decide +kernel) rfl (fun KK hKl hKg C hin hret => ?_)
  subst hKl; subst hKg
  refine j_lv (lv' := [(0, _), (1, _), (2, _)]) rfl ?_
  subst hp; subst hq
  have hi6 : i < 6 := Nat.lt_of_lt_of_le hi hX.1.2
  have htg := hX.2.2.2.2.1 ru hX.2.2.1.2
  refine j_aload_n C dX10_mindsOn_0 rfl rfl ?_
  refine j_get C dX10_mindsOn_1 jf_RX10_32 (wO mO) rfl ?_
  refine j_iload_n C dX10_mindsOn_4 rfl rfl ?_
  refine j_iald C (d) dX10_mindsOn_5 (wA mA7) (rfl) (hd) (by decide) ?_
  refine j_iconst (v := -1) C dX10_mindsOn_6 rfl ?_
  refine j_icmp_ne (tgt := 14) C dX10_mindsOn_7 (by decide) (fun c_7 => ?_) (fun c_7 => ?_)
  · skip
    refine j_aload_n C dX10_mindsOn_14 rfl rfl ?_
    refine j_iconst (v := 2) C dX10_mindsOn_15 rfl ?_
    refine j_iload_n C dX10_mindsOn_16 rfl rfl ?_
    refine j_iload_n C dX10_mindsOn_17 rfl rfl ?_
    refine j_aload_n C dX10_mindsOn_18 rfl rfl ?_
    refine j_get C dX10_mindsOn_19 jf_RX10_32 (wO mO) rfl ?_
    refine j_iload_n C dX10_mindsOn_22 rfl rfl ?_
    refine j_iald C (d) dX10_mindsOn_23 (wA mA7) (rfl) (hd) (by decide) ?_
    refine j_calliv C (c_X10_asks _ _ _ _ _ _ _ _ (B ru) (N ru) ru i hX.2.2.1.1 htg rfl hi6 (hpl c_7) hX.2.2.2.1.1) dX10_mindsOn_24 jm_RX10_328 ⟨_, _, _, _, wO mO, rfl, rfl⟩ ⟨by decide, by decide, by decide, by decide⟩ rfl (Nat.le_of_ble_eq_true rfl) (fun r_24 z_24 hz_24 => ?_)
    skip
    refine hret _ _ _ _ dX10_mindsOn_27 rfl ?_
    exact ⟨hz_24.1, by rw [if_neg c_7]; exact hz_24.2⟩
  · skip
    refine j_iconst (v := 0) C dX10_mindsOn_10 rfl ?_
    refine j_goto (tgt := 27) C dX10_mindsOn_11 (by decide) ?_
    refine hret _ _ _ _ dX10_mindsOn_27 rfl ?_
    exact ⟨mH_r, (if_pos c_7).symm⟩
