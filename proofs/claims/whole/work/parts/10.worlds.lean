/-! THE TWO WORLDS: the class's sixty cells, the reference's sixteen; a state is a number for every cell and place -/
def uR (M : Nat → Nat → Int32) (k : Nat) (r : Nat → Int32) : Nat → Nat → Int32 := fun k' => if k' = k then r else M k'
def uM (M : Nat → Nat → Int32) (k i : Nat) (v : Int32) : Nat → Nat → Int32 := uR M k (upd (M k) i v)
def gW (n : Nat) (ce : Nat → (Nat → Int32) → va_E) (a : Nat → Nat) (M : Nat → Nat → Int32) : va_W := (List.range n).map (fun k => (a k, ce k (M k)))
theorem gW_at {n : Nat} {ce : Nat → (Nat → Int32) → va_E} {a : Nat → Nat} {M : Nat → Nat → Int32} {k : Nat} (hk : k < n) : (gW n ce a M)[k]? = some (a k, ce k (M k)) := by simp [gW, hk]
theorem gW_set {n : Nat} {ce : Nat → (Nat → Int32) → va_E} {a : Nat → Nat} {M : Nat → Nat → Int32} {k : Nat} (r : Nat → Int32) {e : va_E} (he : ce k r = e) : (gW n ce a M).set k (a k, e) = gW n ce a (uR M k r) := by
  apply List.ext_getElem?
  intro j
  rw [List.getElem?_set]
  by_cases hj : k = j
  · subst hj
    by_cases hn : k < n
    · rw [if_pos rfl, gW_at hn, if_pos (by simpa [gW] using hn)]
      simp [uR, he]
    · rw [if_pos rfl, if_neg (by simpa [gW] using hn)]
      simp [gW, hn]
  · rw [if_neg hj]
    simp only [gW, List.getElem?_map]
    rcases hq : (List.range n)[j]? with _ | q
    · rfl
    · have : q = j := by
        have := List.getElem?_eq_some_iff.mp hq
        obtain ⟨h1, h2⟩ := this
        simpa using h2.symm
      subst this
      simp [uR, Ne.symm hj]
theorem uM_ne {M : Nat → Nat → Int32} {k i k' : Nat} {v : Int32} (h : k' ≠ k) : uM M k i v k' = M k' := if_neg h
theorem uM_eq {M : Nat → Nat → Int32} {k i : Nat} {v : Int32} : uM M k i v k = upd (M k) i v := if_pos rfl
theorem uM_s {M : Nat → Nat → Int32} {k i : Nat} {v : Int32} : uM M k i v k i = v := by rw [uM_eq, pk_us]
theorem uM_n {M : Nat → Nat → Int32} {k i j : Nat} {v : Int32} (h : j ≠ i) : uM M k i v k j = M k j := by rw [uM_eq, pk_un h]
theorem uM_all {M : Nat → Nat → Int32} {k i k' j : Nat} {v : Int32} : uM M k i v k' j = if k' = k ∧ j = i then v else M k' j := by
  by_cases h : k' = k
  · subst h
    by_cases h2 : j = i
    · subst h2; rw [uM_s, if_pos ⟨rfl, rfl⟩]
    · rw [uM_n h2, if_neg (fun q => h2 q.2)]
  · rw [uM_ne h, if_neg (fun q => h q.1)]
/-- what an object's or a row's cell is, whatever it holds -/
def isObj (n : Nat) (ce : Nat → (Nat → Int32) → va_E) (k ci : Nat) (fl : (Nat → Int32) → List Value) : Prop := k < n ∧ ∀ r, ce k r = .inr (ci, fl r)
def isArr (n : Nat) (ce : Nat → (Nat → Int32) → va_E) (k : Nat) (cA : ClassId) (len : Nat) : Prop := k < n ∧ ∀ r, ce k r = .inl (cA, len, .inl r)
def isRef (n : Nat) (ce : Nat → (Nat → Int32) → va_E) (k : Nat) (cA : ClassId) (len : Nat) (f : Nat → Option Nat) : Prop := k < n ∧ ∀ r, ce k r = .inl (cA, len, .inr (.inr (.inr (.inr f))))
theorem wO {n : Nat} {ce : Nat → (Nat → Int32) → va_E} {a : Nat → Nat} {M : Nat → Nat → Int32} {k ci : Nat} {fl : (Nat → Int32) → List Value} (h : isObj n ce k ci fl) : (gW n ce a M)[k]? = some (a k, .inr (ci, fl (M k))) := by rw [gW_at h.1, h.2]
theorem wA {n : Nat} {ce : Nat → (Nat → Int32) → va_E} {a : Nat → Nat} {M : Nat → Nat → Int32} {k len : Nat} {cA : ClassId} (h : isArr n ce k cA len) : (gW n ce a M)[k]? = some (a k, .inl (cA, len, .inl (M k))) := by rw [gW_at h.1, h.2]
theorem wR {n : Nat} {ce : Nat → (Nat → Int32) → va_E} {a : Nat → Nat} {M : Nat → Nat → Int32} {k len : Nat} {cA : ClassId} {f : Nat → Option Nat} (h : isRef n ce k cA len f) : (gW n ce a M)[k]? = some (a k, .inl (cA, len, .inr (.inr (.inr (.inr f))))) := by rw [gW_at h.1, h.2]
theorem sO {n : Nat} {ce : Nat → (Nat → Int32) → va_E} {a : Nat → Nat} {M : Nat → Nat → Int32} {k ci : Nat} {fl : (Nat → Int32) → List Value} (h : isObj n ce k ci fl) (i : Nat) (v : Int32) (he : fl (upd (M k) i v) = (fl (M k)).set i (.int v)) : (gW n ce a M).set k (a k, .inr (ci, (fl (M k)).set i (.int v))) = gW n ce a (uM M k i v) := gW_set (upd (M k) i v) (by rw [h.2, he])
theorem sA {n : Nat} {ce : Nat → (Nat → Int32) → va_E} {a : Nat → Nat} {M : Nat → Nat → Int32} {k len : Nat} {cA : ClassId} (h : isArr n ce k cA len) (i : Nat) (v : Int32) : (gW n ce a M).set k (a k, .inl (cA, len, .inl (upd (M k) i v))) = gW n ce a (uM M k i v) := gW_set (upd (M k) i v) (by rw [h.2])
-- THE CLASS: 0 this, 1 hung, 2 herWalk, 3 texts, 4 reader, 5 tape (6 bytes, 7 tokens, 8 starts, 9 numbers), 10 rows, 11 image (12 kept, 13 walk, 14 + i gloves), 20 course (21 where, 22 told, 23 likely, 24 reckoner, 25 stack), 26 otherGlove, 27 otherWalk, 28 + i gloves, 34 + 3 i texts (row, ends), 52 + 2 i sheets (items)
def fGl (r : Nat → Int32) : List Value := [.int (r 0), .int (r 1), .int (r 2), .int (r 3), .int (r 4)]
def fWk (r : Nat → Int32) : List Value := [.int (r 0), .int (r 1), .int (r 2)]
def fTx (a : Nat → Nat) (k : Nat) (r : Nat → Int32) : List Value := [.ref (a (k + 1)), .ref (a (k + 2)), .int (r 2)]
def fRw (a : Nat → Nat) (k : Nat) (r : Nat → Int32) : List Value := [.ref (a (k + 1)), .int (r 1), .int (r 2)]
def fX0 (a : Nat → Nat) (r : Nat → Int32) : List Value := [.ref (a 1), .int (r 1), .ref (a 2), .ref (a 3), .int (r 4), .int (r 5), .ref (a 4), .ref (a 10), .ref (a 11), .ref (a 20), .ref (a 26), .ref (a 27)]
def fRd (a : Nat → Nat) (r : Nat → Int32) : List Value := [.ref (a 5), .int (r 1)]
def fTp (a : Nat → Nat) (r : Nat → Int32) : List Value := [.ref (a 6), .int (r 1), .ref (a 7), .ref (a 8), .ref (a 9), .int (r 5)]
def fIm (a : Nat → Nat) (r : Nat → Int32) : List Value := [.ref (a 12), .ref (a 13), .int (r 2), .int (r 3), .int (r 4)]
def fCo (a : Nat → Nat) (_ : Nat → Int32) : List Value := [.ref (a 21), .ref (a 22), .ref (a 23), .ref (a 24)]
def fRk (a : Nat → Nat) (r : Nat → Int32) : List Value := [.ref (a 25), .int (r 1), .int (r 2), .int (r 3), .int (r 4), .int (r 5), .int (r 6), .int (r 7)]
def rArr (cA : ClassId) (n : Nat) (f : Nat → Option Nat) : va_E := .inl (cA, n, .inr (.inr (.inr (.inr f))))
def cE (g : jG) (a : Nat → Nat) (k : Nat) (r : Nat → Int32) : va_E :=
  match k with
  | 0 => .inr (9, fX0 a r)
  | 1 => rArr (gGl g) 6 (fun j => some (a (28 + j)))
  | 2 => .inr (8, fWk r)
  | 3 => rArr (gTx g) 6 (fun j => some (a (34 + 3 * j)))
  | 4 => .inr (3, fRd a r)
  | 5 => .inr (6, fTp a r)
  | 6 => .inl (gI g, 160, .inl r)
  | 7 => .inl (gI g, 161, .inl r)
  | 8 => .inl (gI g, 161, .inl r)
  | 9 => .inl (gI g, 161, .inl r)
  | 10 => rArr (gRw g) 4 (fun j => some (a (52 + 2 * j)))
  | 11 => .inr (2, fIm a r)
  | 12 => rArr (gGl g) 6 (fun j => some (a (14 + j)))
  | 13 => .inr (8, fWk r)
  | 20 => .inr (0, fCo a r)
  | 21 => .inl (gI g, 30, .inl r)
  | 22 => .inl (gI g, 30, .inl r)
  | 23 => .inl (gI g, 30, .inl r)
  | 24 => .inr (4, fRk a r)
  | 25 => .inl (gI g, 160, .inl r)
  | 27 => .inr (8, fWk r)
  | k => if k < 34 then .inr (1, fGl r) else if k < 52 then (if k % 3 = 1 then .inr (7, fTx a k r) else if k % 3 = 2 then .inl (gI g, 160, .inl r) else .inl (gI g, 3, .inl r)) else if k % 2 = 0 then .inr (5, fRw a k r) else .inl (gI g, 40, .inl r)
abbrev cW (g : jG) (a : Nat → Nat) : (Nat → Nat → Int32) → va_W := gW 60 (cE g a) a
def isGl (k : Nat) : Prop := k = 26 ∨ (14 ≤ k ∧ k < 20) ∨ (28 ≤ k ∧ k < 34)
def isWk (k : Nat) : Prop := k = 2 ∨ k = 13 ∨ k = 27
def isTx (k : Nat) : Prop := 34 ≤ k ∧ k < 52 ∧ k % 3 = 1
def isRw (k : Nat) : Prop := 52 ≤ k ∧ k < 60 ∧ k % 2 = 0
theorem cGl {g : jG} {a : Nat → Nat} {k : Nat} (h : isGl k) : isObj 60 (cE g a) k 1 fGl := by
  refine ⟨by unfold isGl at h; omega, fun r => ?_⟩
  have h2 : k = 26 ∨ k = 14 ∨ k = 15 ∨ k = 16 ∨ k = 17 ∨ k = 18 ∨ k = 19 ∨ k = 28 ∨ k = 29 ∨ k = 30 ∨ k = 31 ∨ k = 32 ∨ k = 33 := by unfold isGl at h; omega
  rcases h2 with rfl | rfl | rfl | rfl | rfl | rfl | rfl | rfl | rfl | rfl | rfl | rfl | rfl <;> rfl
theorem cWk {g : jG} {a : Nat → Nat} {k : Nat} (h : isWk k) : isObj 60 (cE g a) k 8 fWk := by
  refine ⟨by unfold isWk at h; omega, fun r => ?_⟩
  rcases h with rfl | rfl | rfl <;> rfl
theorem isTx_c {k : Nat} (h : isTx k) : k = 34 ∨ k = 37 ∨ k = 40 ∨ k = 43 ∨ k = 46 ∨ k = 49 := by unfold isTx at h; omega
theorem isRw_c {k : Nat} (h : isRw k) : k = 52 ∨ k = 54 ∨ k = 56 ∨ k = 58 := by unfold isRw at h; omega
theorem cTx {g : jG} {a : Nat → Nat} {k : Nat} (h : isTx k) : isObj 60 (cE g a) k 7 (fTx a k) := by
  refine ⟨by unfold isTx at h; omega, fun r => ?_⟩
  rcases isTx_c h with rfl | rfl | rfl | rfl | rfl | rfl <;> rfl
theorem cTxR {g : jG} {a : Nat → Nat} {k : Nat} (h : isTx k) : isArr 60 (cE g a) (k + 1) (gI g) 160 := by
  refine ⟨by unfold isTx at h; omega, fun r => ?_⟩
  rcases isTx_c h with rfl | rfl | rfl | rfl | rfl | rfl <;> rfl
theorem cTxE {g : jG} {a : Nat → Nat} {k : Nat} (h : isTx k) : isArr 60 (cE g a) (k + 2) (gI g) 3 := by
  refine ⟨by unfold isTx at h; omega, fun r => ?_⟩
  rcases isTx_c h with rfl | rfl | rfl | rfl | rfl | rfl <;> rfl
theorem cRw {g : jG} {a : Nat → Nat} {k : Nat} (h : isRw k) : isObj 60 (cE g a) k 5 (fRw a k) := by
  refine ⟨by unfold isRw at h; omega, fun r => ?_⟩
  rcases isRw_c h with rfl | rfl | rfl | rfl <;> rfl
theorem cRwI {g : jG} {a : Nat → Nat} {k : Nat} (h : isRw k) : isArr 60 (cE g a) (k + 1) (gI g) 40 := by
  refine ⟨by unfold isRw at h; omega, fun r => ?_⟩
  rcases isRw_c h with rfl | rfl | rfl | rfl <;> rfl
theorem cX0 {g : jG} {a : Nat → Nat} : isObj 60 (cE g a) 0 9 (fX0 a) := ⟨by decide, fun _ => rfl⟩
theorem cRd {g : jG} {a : Nat → Nat} : isObj 60 (cE g a) 4 3 (fRd a) := ⟨by decide, fun _ => rfl⟩
theorem cTp {g : jG} {a : Nat → Nat} : isObj 60 (cE g a) 5 6 (fTp a) := ⟨by decide, fun _ => rfl⟩
theorem cIm {g : jG} {a : Nat → Nat} : isObj 60 (cE g a) 11 2 (fIm a) := ⟨by decide, fun _ => rfl⟩
theorem cCo {g : jG} {a : Nat → Nat} : isObj 60 (cE g a) 20 0 (fCo a) := ⟨by decide, fun _ => rfl⟩
theorem cRk {g : jG} {a : Nat → Nat} : isObj 60 (cE g a) 24 4 (fRk a) := ⟨by decide, fun _ => rfl⟩
theorem cA6 {g : jG} {a : Nat → Nat} : isArr 60 (cE g a) 6 (gI g) 160 := ⟨by decide, fun _ => rfl⟩
theorem cA7 {g : jG} {a : Nat → Nat} : isArr 60 (cE g a) 7 (gI g) 161 := ⟨by decide, fun _ => rfl⟩
theorem cA8 {g : jG} {a : Nat → Nat} : isArr 60 (cE g a) 8 (gI g) 161 := ⟨by decide, fun _ => rfl⟩
theorem cA9 {g : jG} {a : Nat → Nat} : isArr 60 (cE g a) 9 (gI g) 161 := ⟨by decide, fun _ => rfl⟩
theorem cA21 {g : jG} {a : Nat → Nat} : isArr 60 (cE g a) 21 (gI g) 30 := ⟨by decide, fun _ => rfl⟩
theorem cA22 {g : jG} {a : Nat → Nat} : isArr 60 (cE g a) 22 (gI g) 30 := ⟨by decide, fun _ => rfl⟩
theorem cA23 {g : jG} {a : Nat → Nat} : isArr 60 (cE g a) 23 (gI g) 30 := ⟨by decide, fun _ => rfl⟩
theorem cA25 {g : jG} {a : Nat → Nat} : isArr 60 (cE g a) 25 (gI g) 160 := ⟨by decide, fun _ => rfl⟩
theorem cR1 {g : jG} {a : Nat → Nat} : isRef 60 (cE g a) 1 (gGl g) 6 (fun j => some (a (28 + j))) := ⟨by decide, fun _ => rfl⟩
theorem cR3 {g : jG} {a : Nat → Nat} : isRef 60 (cE g a) 3 (gTx g) 6 (fun j => some (a (34 + 3 * j))) := ⟨by decide, fun _ => rfl⟩
theorem cR10 {g : jG} {a : Nat → Nat} : isRef 60 (cE g a) 10 (gRw g) 4 (fun j => some (a (52 + 2 * j))) := ⟨by decide, fun _ => rfl⟩
theorem cR12 {g : jG} {a : Nat → Nat} : isRef 60 (cE g a) 12 (gGl g) 6 (fun j => some (a (14 + j))) := ⟨by decide, fun _ => rfl⟩
-- THE REFERENCE: 0 this, 1 texts, 2 textSize, 3 tape, 4 her, 5 kinds, 6 rows, 7 whereRow, 8 likelyRow, 9 herWas, 10 herKept, 11 rowsKept, 12 isThere, 13 sorts, 14 sheetSize, 15 items
def fM (a : Nat → Nat) (w : Int64) (r : Nat → Int32) : List Value := [.int (r 0), .ref (a 1), .ref (a 2), .int (r 3), .int (r 4), .ref (a 3), .int (r 6), .ref (a 4), .ref (a 5), .ref (a 6), .int (r 10), .int (r 11), .int (r 12), .int (r 13), .int (r 14), .int (r 15), .int (r 16), .int (r 17), .int (r 18), .int (r 19), .int (r 20), .int (r 21), .long w, .int (r 23), .int (r 24), .int (r 25), .ref (a 7), .ref (a 8), .ref (a 9), .ref (a 10), .ref (a 11), .int (r 31), .int (r 32), .ref (a 12), .ref (a 13), .ref (a 14), .ref (a 15)]
def mE (g : jG) (a : Nat → Nat) (w : Int64) (k : Nat) (r : Nat → Int32) : va_E :=
  match k with
  | 0 => .inr (10, fM a w r)
  | 1 => .inl (gI g, 960, .inl r)
  | 2 => .inl (gI g, 6, .inl r)
  | 3 => .inl (gI g, 160, .inl r)
  | 4 => .inl (gI g, 3, .inl r)
  | 5 => .inl (gI g, 6, .inl r)
  | 6 => .inl (gI g, 24, .inl r)
  | 7 => .inl (gI g, 30, .inl r)
  | 8 => .inl (gI g, 30, .inl r)
  | 9 => .inl (gI g, 3, .inl r)
  | 10 => .inl (gI g, 3, .inl r)
  | 11 => .inl (gI g, 24, .inl r)
  | 12 => .inl (gZ g, 4, .inl r)
  | 13 => .inl (gI g, 4, .inl r)
  | 14 => .inl (gI g, 4, .inl r)
  | _ => .inl (gI g, 160, .inl r)
def mS : Type := (Nat → Nat → Int32) × Int64
abbrev mW (g : jG) (a : Nat → Nat) : mS → va_W := fun x => gW 16 (mE g a x.2) a x.1
theorem mO {g : jG} {a : Nat → Nat} {w : Int64} : isObj 16 (mE g a w) 0 10 (fM a w) := ⟨by decide, fun _ => rfl⟩
theorem mA1 {g : jG} {a : Nat → Nat} {w : Int64} : isArr 16 (mE g a w) 1 (gI g) 960 := ⟨by decide, fun _ => rfl⟩
theorem mA2 {g : jG} {a : Nat → Nat} {w : Int64} : isArr 16 (mE g a w) 2 (gI g) 6 := ⟨by decide, fun _ => rfl⟩
theorem mA3 {g : jG} {a : Nat → Nat} {w : Int64} : isArr 16 (mE g a w) 3 (gI g) 160 := ⟨by decide, fun _ => rfl⟩
theorem mA4 {g : jG} {a : Nat → Nat} {w : Int64} : isArr 16 (mE g a w) 4 (gI g) 3 := ⟨by decide, fun _ => rfl⟩
theorem mA5 {g : jG} {a : Nat → Nat} {w : Int64} : isArr 16 (mE g a w) 5 (gI g) 6 := ⟨by decide, fun _ => rfl⟩
theorem mA6 {g : jG} {a : Nat → Nat} {w : Int64} : isArr 16 (mE g a w) 6 (gI g) 24 := ⟨by decide, fun _ => rfl⟩
theorem mA7 {g : jG} {a : Nat → Nat} {w : Int64} : isArr 16 (mE g a w) 7 (gI g) 30 := ⟨by decide, fun _ => rfl⟩
theorem mA8 {g : jG} {a : Nat → Nat} {w : Int64} : isArr 16 (mE g a w) 8 (gI g) 30 := ⟨by decide, fun _ => rfl⟩
theorem mA9 {g : jG} {a : Nat → Nat} {w : Int64} : isArr 16 (mE g a w) 9 (gI g) 3 := ⟨by decide, fun _ => rfl⟩
theorem mA10 {g : jG} {a : Nat → Nat} {w : Int64} : isArr 16 (mE g a w) 10 (gI g) 3 := ⟨by decide, fun _ => rfl⟩
theorem mA11 {g : jG} {a : Nat → Nat} {w : Int64} : isArr 16 (mE g a w) 11 (gI g) 24 := ⟨by decide, fun _ => rfl⟩
theorem mA12 {g : jG} {a : Nat → Nat} {w : Int64} : isArr 16 (mE g a w) 12 (gZ g) 4 := ⟨by decide, fun _ => rfl⟩
theorem mA13 {g : jG} {a : Nat → Nat} {w : Int64} : isArr 16 (mE g a w) 13 (gI g) 4 := ⟨by decide, fun _ => rfl⟩
theorem mA14 {g : jG} {a : Nat → Nat} {w : Int64} : isArr 16 (mE g a w) 14 (gI g) 4 := ⟨by decide, fun _ => rfl⟩
theorem mA15 {g : jG} {a : Nat → Nat} {w : Int64} : isArr 16 (mE g a w) 15 (gI g) 160 := ⟨by decide, fun _ => rfl⟩
theorem fM_w {a : Nat → Nat} {w v : Int64} {r : Nat → Int32} : (fM a w r).set 22 (.long v) = fM a v r := rfl
/-- the long field is written -/
theorem sMw {g : jG} {a : Nat → Nat} {x : mS} (v : Int64) : (mW g a x).set 0 (a 0, .inr (10, (fM a x.2 (x.1 0)).set 22 (.long v))) = mW g a (x.1, v) := by
  rw [fM_w]
  have h := gW_set (n := 16) (ce := mE g a v) (a := a) (M := x.1) (k := 0) (x.1 0) (e := .inr (10, fM a v (x.1 0))) rfl
  have h0 : uR x.1 0 (x.1 0) = x.1 := by funext k; simp only [uR]; split <;> simp_all
  rw [h0] at h
  show (gW 16 (mE g a x.2) a x.1).set 0 _ = gW 16 (mE g a v) a x.1
  rw [← h]
  rfl
def mU (x : mS) (k i : Nat) (v : Int32) : mS := (uM x.1 k i v, x.2)
theorem sMo {g : jG} {a : Nat → Nat} {x : mS} (i : Nat) (v : Int32) (he : fM a x.2 (upd (x.1 0) i v) = (fM a x.2 (x.1 0)).set i (.int v)) : (mW g a x).set 0 (a 0, .inr (10, (fM a x.2 (x.1 0)).set i (.int v))) = mW g a (mU x 0 i v) := sO mO i v he
theorem sMa {g : jG} {a : Nat → Nat} {x : mS} {k len : Nat} {cA : ClassId} (h : isArr 16 (mE g a x.2) k cA len) (i : Nat) (v : Int32) : (mW g a x).set k (a k, .inl (cA, len, .inl (upd (x.1 k) i v))) = mW g a (mU x k i v) := sA h i v
theorem isGl_h {i : Nat} (h : i < 6) : isGl (28 + i) := by unfold isGl; omega
theorem isGl_k {i : Nat} (h : i < 6) : isGl (14 + i) := by unfold isGl; omega
theorem isTx_h {i : Nat} (h : i < 6) : isTx (34 + 3 * i) := by unfold isTx; omega
theorem isRw_h {i : Nat} (h : i < 4) : isRw (52 + 2 * i) := by unfold isRw; omega
theorem cl_nI {i : Int32} (h : 0 ≤ i) : i = nI i.toNatClampNeg := by
  obtain ⟨j, hj, e⟩ := nI_of (x := i) (by simp only [Int32.lt_iff_toInt_lt, Int32.le_iff_toInt_le, Int32.reduceToInt] at *; omega)
  rw [e, nI_clamp hj]
theorem cl_lt {i m : Int32} {n : Nat} (h : 0 ≤ i) (h2 : i < m) (hm : m = nI n) (hn : n < 2147483648 := by decide) : i.toNatClampNeg < n := by
  obtain ⟨j, hj, e⟩ := nI_of (x := i) (by simp only [Int32.lt_iff_toInt_lt, Int32.le_iff_toInt_le, Int32.reduceToInt] at *; omega)
  rw [hm, e, nI_ltI hj hn] at h2
  rw [e, nI_clamp hj]; exact h2
theorem cl_toInt {i : Int32} (h : 0 ≤ i) : (i.toNatClampNeg : Int) = i.toInt := by
  obtain ⟨j, hj, e⟩ := nI_of (x := i) (by simp only [Int32.lt_iff_toInt_lt, Int32.le_iff_toInt_le, Int32.reduceToInt] at *; omega)
  rw [e, nI_clamp hj, nI_toInt hj]
theorem i32_sub {x y : Int32} (h : -1000000000 ≤ x.toInt - y.toInt) (h2 : x.toInt - y.toInt ≤ 1000000000) : (x - y).toInt = x.toInt - y.toInt := by
  rw [Int32.toInt_sub, Int.bmod_eq_of_le (by omega) (by omega)]
theorem i32_add {x y : Int32} (h : -1000000000 ≤ x.toInt + y.toInt) (h2 : x.toInt + y.toInt ≤ 1000000000) : (x + y).toInt = x.toInt + y.toInt := by
  rw [Int32.toInt_add, Int.bmod_eq_of_le (by omega) (by omega)]
theorem cl_add {p n m : Int32} (h : 0 ≤ p ∧ 0 ≤ n ∧ n ≤ m ∧ p ≤ m - n ∧ m ≤ 40) : p.toNatClampNeg + n.toNatClampNeg ≤ 40 := by
  obtain ⟨h1, h2, h3, h4, h5⟩ := h
  have e1 := cl_toInt h1
  have e2 := cl_toInt h2
  simp only [Int32.lt_iff_toInt_lt, Int32.le_iff_toInt_le, Int32.reduceToInt] at *
  rw [i32_sub (by omega) (by omega)] at h4
  omega
theorem j_inc1 (i : Nat) : nI i + Int32.ofInt 1 = nI (i + 1) := nI_1 i
theorem j_inc3 (i : Nat) : nI i + Int32.ofInt 3 = nI (i + 3) := nI_add i 3
theorem j_copy {S : Type} {K : jK} {wd : S → va_W} {ca sl : Nat} {x y : S} {lv : List (Nat × Value)} {pc : Nat} {st : List Value} {own : String} {cc : ByteArray} {nL fr lo mc ms : Nat} (C : Cx K own cc nL fr lo mc ms) {q0 q1 a0 a1 n0 n1 idx : Nat} {f h : Nat → Int32} {sp dp n : Int32} (sp' dp' n' : Nat) (hd : decode cc pc = .ok (.invokestatic idx, 3))
    (hw : Cond.methodLink own idx arraycopyName ∈ wsL_law ∧ Cond.native arraycopyName ∈ wsL_law ∧ Cond.static arraycopyName ∈ wsL_law ∧ Cond.initialized "java/lang/System" ∈ wsL_law)
    (ha0 : (wd x)[q0]? = some (a0, .inl (gI (kG K), n0, .inl f))) (ha1 : (wd x)[q1]? = some (a1, .inl (gI (kG K), n1, .inl h))) (e1 : sp = nI sp') (e2 : dp = nI dp') (e3 : n = nI n') (h4 : sp' + n' ≤ n0) (h5 : dp' + n' ≤ n1) (hn0 : n0 < 2147483648) (hn1 : n1 < 2147483648)
    (hfr : 1 ≤ fr) (hlo : (st.map fun v => v.category).sum + (nativeFrameWords "java/lang/System" "arraycopy" 5 + 11) ≤ lo)
    (hy : (wd x).set q1 (a1, .inl (gI (kG K), n1, .inl (va_cpy f h sp' dp' n'))) = wd y) (kk : J K wd ca sl y lv (pc + 3) st) : J K wd ca sl x lv pc (.int n :: .int dp :: .ref a1 :: .int sp :: .ref a0 :: st) := by
  subst e1; subst e2; subst e3
  have b1 : (nI sp').toNatClampNeg = sp' := nI_clamp (by omega)
  have b2 : (nI dp').toNatClampNeg = dp' := nI_clamp (by omega)
  have b3 : (nI n').toNatClampNeg = n' := nI_clamp (by omega)
  have hR := C.2.2.2.2.2.2.2.2.1
  intro H locs ls hP hD hS hl
  refine va_copyi C.1 C.2.1 hl.1.symm C.2.2.2.1 (C.2.2.2.2.1 _ hw.1) (C.2.2.2.2.1 _ hw.2.1) (C.2.2.2.2.1 _ hw.2.2.1) (C.2.2.2.2.1 _ hw.2.2.2) C.2.2.2.2.2.1 hP hD hS q0 q1 0 0 ha0 ha1 gty_0 gty_0 rfl (nI_pos (by omega)) (nI_pos (by omega)) (nI_pos (by omega)) (by rw [b1, b3]; exact h4) (by rw [b2, b3]; exact h5) (fun _ _ => rfl) (by rw [hR]; exact hfr) (by rw [hR]; exact hlo) hd (fun H1 locs1 hP1 hD1 hS1 => ?_)
  rw [b1, b2, b3, hy] at hP1 hD1
  exact kk H1 locs1 ls hP1 hD1 hS1 hl
