/-! THE LAW -/
abbrev wL (g : jG) (a b : Nat → Nat) : (Nat → Nat → Int32) × mS → va_W := fun s => cW g a s.1 ++ mW g b s.2
theorem wL_0 {g : jG} {a b : Nat → Nat} {s : (Nat → Nat → Int32) × mS} : (wL g a b s)[0]? = some (a 0, .inr (9, fX0 a (s.1 0))) := by
  have h : (cW g a s.1)[0]? = some (a 0, .inr (9, fX0 a (s.1 0))) := wO cX0
  show (cW g a s.1 ++ mW g b s.2)[0]? = _
  rw [List.getElem?_append_left (List.getElem?_eq_some_iff.mp h).1]; exact h
theorem wL_60 {g : jG} {a b : Nat → Nat} {s : (Nat → Nat → Int32) × mS} : (wL g a b s)[60]? = some (b 0, .inr (10, fM b s.2.2 (s.2.1 0))) := by
  have h : (mW g b s.2)[0]? = some (b 0, .inr (10, fM b s.2.2 (s.2.1 0))) := wO mO
  have hl : (cW g a s.1).length = 60 := by simp [gW]
  show (cW g a s.1 ++ mW g b s.2)[60]? = _
  rw [List.getElem?_append_right (by omega), hl]; exact h
section
variable {K : jK} {a b : Nat → Nat} {ca sl : Nat} {M : Nat → Nat → Int32} {x : mS} {lv : List (Nat × Value)} {pc : Nat} {st st0 : List Value} {own : String} {cc : ByteArray} {nL fr lo mc ms : Nat}
theorem j_sld {S : Type} {wd : S → va_W} {y : S} (C : Cx K own cc nL fr lo mc ms) {bs L : Nat} {xs : Nat → Int32} (hX : va_X bs L xs (kS K) (kS K).heap) (hbl : bs < (kS K).heap.size) (hbA : ¬ kF K bs) {i : Int32} (i' : Nat) (hd : decode cc pc = .ok (.iaload, 1)) (hi : i = nI i') (hin : i' < L) (hL : L < 2147483648) (kk : J K wd ca sl y lv (pc + 1) (.int (xs i') :: st)) : J K wd ca sl y lv pc (.int i :: .ref bs :: st) := by
  subst hi
  have e : xs (nI i').toNatClampNeg = xs i' := by rw [nI_clamp (Nat.lt_trans hin hL)]
  rw [← e] at kk
  exact fun H locs ls hP hD hS h => va_sld C.1 C.2.1 hX hbl hbA hS (vp_in_nI hin hL) hd (kk H locs ls hP hD hS h)
theorem j_slen {S : Type} {wd : S → va_W} {y : S} (C : Cx K own cc nL fr lo mc ms) {bs L : Nat} {xs : Nat → Int32} (hX : va_X bs L xs (kS K) (kS K).heap) (hbl : bs < (kS K).heap.size) (hbA : ¬ kF K bs) (hd : decode cc pc = .ok (.arraylength, 1)) (kk : J K wd ca sl y lv (pc + 1) (.int (nI L) :: st)) : J K wd ca sl y lv pc (.ref bs :: st) :=
  fun H locs ls hP hD hS h => va_slen C.1 C.2.1 hX hbl hbA hS hd (kk H locs ls hP hD hS h)
theorem j_lci (C : Cx K own cc nL fr lo mc ms) (hca : ca ≤ mc) (hsl : sl ≤ ms) {y : MethodName} {cc' : ByteArray} {nL' fr' lo' idx : Nat} {ty : FieldType} {As : List Value} {post : Int32 → (Nat → Nat → Int32) → Prop} (hM : Ci (kL K) (kG K) y cc' nL' ty fr' lo' 0 0 (cW (kG K) a) (.ref (a 0) :: As) M post) (hd : decode cc pc = .ok (.invokevirtual idx, 3)) (hm : jMV own idx y cc' nL' (some ty) As.length) (hcl : RX9 = y.cls) (hR : fr' + 1 ≤ fr ∧ 8 + (nL' + 11) + lo' ≤ lo) (hst : As.reverse ++ .ref (a 0) :: st = st0) (hcat : (st.map fun v => v.category).sum ≤ 8)
    (kk : ∀ (r : Int32) (z : Nat → Nat → Int32), post r z → J K (wL (kG K) a b) ca sl (z, x) lv (pc + 3) (.int r :: st)) : J K (wL (kG K) a b) ca sl (M, x) lv pc st0 :=
  j_callivX (wd := wL (kG K) a b) (wd' := cW (kG K) a) (fun z => (z, x)) [] (mW (kG K) b x) (fun _ => rfl) C hM hd hm ⟨0, 9, _, (RX9, TX9, 12), wL_0, rfl, hcl⟩ ⟨hR.1, hR.2, hca, hsl⟩ hst hcat kk
theorem j_lcl (C : Cx K own cc nL fr lo mc ms) (hca : ca ≤ mc) (hsl : sl ≤ ms) {y : MethodName} {cc' : ByteArray} {nL' fr' lo' idx : Nat} {As : List Value} {post : Int64 → (Nat → Nat → Int32) → Prop} (hM : Cl (kL K) (kG K) y cc' nL' fr' lo' 0 0 (cW (kG K) a) (.ref (a 0) :: As) M post) (hd : decode cc pc = .ok (.invokevirtual idx, 3)) (hm : jMV own idx y cc' nL' (some .long) As.length) (hcl : RX9 = y.cls) (hR : fr' + 1 ≤ fr ∧ 8 + (nL' + 11) + lo' ≤ lo) (hst : As.reverse ++ .ref (a 0) :: st = st0) (hcat : (st.map fun v => v.category).sum ≤ 8)
    (kk : ∀ (r : Int64) (z : Nat → Nat → Int32), post r z → J K (wL (kG K) a b) ca sl (z, x) lv (pc + 3) (.long r :: st)) : J K (wL (kG K) a b) ca sl (M, x) lv pc st0 :=
  j_calllvX (wd := wL (kG K) a b) (wd' := cW (kG K) a) (fun z => (z, x)) [] (mW (kG K) b x) (fun _ => rfl) C hM hd hm ⟨0, 9, _, (RX9, TX9, 12), wL_0, rfl, hcl⟩ ⟨hR.1, hR.2, hca, hsl⟩ hst hcat kk
theorem j_lri (C : Cx K own cc nL fr lo mc ms) (hca : ca ≤ mc) (hsl : sl ≤ ms) {y : MethodName} {cc' : ByteArray} {nL' fr' lo' idx : Nat} {ty : FieldType} {As : List Value} {post : Int32 → mS → Prop} (hM : Ci (kL K) (kG K) y cc' nL' ty fr' lo' 0 0 (mW (kG K) b) (.ref (b 0) :: As) x post) (hd : decode cc pc = .ok (.invokevirtual idx, 3)) (hm : jMV own idx y cc' nL' (some ty) As.length) (hcl : RX10 = y.cls) (hR : fr' + 1 ≤ fr ∧ 8 + (nL' + 11) + lo' ≤ lo) (hst : As.reverse ++ .ref (b 0) :: st = st0) (hcat : (st.map fun v => v.category).sum ≤ 8)
    (kk : ∀ (r : Int32) (z : mS), post r z → J K (wL (kG K) a b) ca sl (M, z) lv (pc + 3) (.int r :: st)) : J K (wL (kG K) a b) ca sl (M, x) lv pc st0 :=
  j_callivX (wd := wL (kG K) a b) (wd' := mW (kG K) b) (fun z => (M, z)) (cW (kG K) a M) [] (fun _ => by rw [List.append_nil]) C hM hd hm ⟨60, 10, _, (RX10, TX10, 37), wL_60, rfl, hcl⟩ ⟨hR.1, hR.2, hca, hsl⟩ hst hcat kk
theorem j_lrl (C : Cx K own cc nL fr lo mc ms) (hca : ca ≤ mc) (hsl : sl ≤ ms) {y : MethodName} {cc' : ByteArray} {nL' fr' lo' idx : Nat} {As : List Value} {post : Int64 → mS → Prop} (hM : Cl (kL K) (kG K) y cc' nL' fr' lo' 0 0 (mW (kG K) b) (.ref (b 0) :: As) x post) (hd : decode cc pc = .ok (.invokevirtual idx, 3)) (hm : jMV own idx y cc' nL' (some .long) As.length) (hcl : RX10 = y.cls) (hR : fr' + 1 ≤ fr ∧ 8 + (nL' + 11) + lo' ≤ lo) (hst : As.reverse ++ .ref (b 0) :: st = st0) (hcat : (st.map fun v => v.category).sum ≤ 8)
    (kk : ∀ (r : Int64) (z : mS), post r z → J K (wL (kG K) a b) ca sl (M, z) lv (pc + 3) (.long r :: st)) : J K (wL (kG K) a b) ca sl (M, x) lv pc st0 :=
  j_calllvX (wd := wL (kG K) a b) (wd' := mW (kG K) b) (fun z => (M, z)) (cW (kG K) a M) [] (fun _ => by rw [List.append_nil]) C hM hd hm ⟨60, 10, _, (RX10, TX10, 37), wL_60, rfl, hcl⟩ ⟨hR.1, hR.2, hca, hsl⟩ hst hcat kk
end
theorem Rx_40 {M : Nat → Nat → Int32} {x : mS} {n t ru s : Nat} {B : Nat → Nat → Int32} {N : Nat → Nat} (h : RelX M x n t ru s B N) : ∀ i, i < 4 → ¬ x.1 12 i = 0 → ∃ sz, sz ≤ 40 ∧ x.1 14 i = nI sz := fun i hi hn => by
  obtain ⟨sz, b1, b2, b3⟩ := h.2.2.2.2.2.2.1 i hi
  exact ⟨sz, b1, (b3.resolve_left (fun k => hn k.2)).2.2.2.1⟩
theorem Rx_rw {M : Nat → Nat → Int32} {x : mS} {n t ru s : Nat} {B : Nat → Nat → Int32} {N : Nat → Nat} (h : RelX M x n t ru s B N) : ∀ i, i < 4 → ∃ sz, M (52 + 2 * i) 2 = nI sz ∧ sz ≤ 40 := fun i hi => by
  obtain ⟨sz, b1, b2, b3⟩ := h.2.2.2.2.2.2.1 i hi
  exact ⟨sz, b2, b1⟩
theorem Rx_le {M : Nat → Nat → Int32} {x : mS} {n t ru s : Nat} {B : Nat → Nat → Int32} {N : Nat → Nat} (h : RelX M x n t ru s B N) : ∀ i, i < 4 → M (52 + 2 * i) 2 ≤ 40 := fun i hi => by
  obtain ⟨sz, b2, b1⟩ := Rx_rw h i hi
  rw [b2]
  simp only [Int32.le_iff_toInt_le, Int32.reduceToInt, nI_toInt (show sz < 2147483648 by omega)]; omega
theorem an31 {v : Int32} : 0 ≤ v &&& 31 ∧ v &&& 31 < 32 := by
  rw [Int32.le_iff_toInt_le, Int32.lt_iff_toInt_lt]
  have e : (v &&& 31).toBitVec = v.toBitVec &&& 31#32 := rfl
  have h2 : (v &&& 31).toBitVec.toNat ≤ 31 := by rw [e, BitVec.toNat_and]; exact Nat.and_le_right
  have h3 : (v &&& 31).toInt = ((v &&& 31).toBitVec.toNat : Int) := by
    show (v &&& 31).toBitVec.toInt = _
    rw [BitVec.toInt_eq_toNat_of_lt (by omega)]
  rw [h3]
  simp only [Int32.reduceToInt]
  omega

