/-! WHAT IS MEANT: pure words for a glove's days; both sides are tied to them -/
abbrev pas (f t p : Int32) : Prop := (f ≤ p ∧ p ≤ t) ∨ (t ≤ p ∧ p ≤ f)
def wiS (v lo hi : Int32) : Int32 := if v < lo then lo else if hi < v then hi else v
def apS (a b : Int32) : Int32 := if b < a then a - b else b - a
/-- a glove r: 0 kind, 1 number, 2 place, 3 height, 4 side -/
def laS (r : Nat → Int32) : Int32 := if r 0 = 1 ∨ r 0 = 3 then 20 + r 1 else if r 0 = 4 then 10 else if r 0 = 5 then 30 else 20
def shS (r : Nat → Int32) (v s : Int32) : Int32 :=
  let pl := if r 4 = s then v else v / 2
  wiS (if r 0 = 1 then pl / 2 else if r 0 = 3 then pl / 2 - r 1 else if r 0 = 2 ∨ r 0 = 4 then pl + 20 else if r 0 = 5 then pl + r 1 else pl) 0 100
def moS (k v : Int32) : Int32 := if k = 2 then v * 2 else if k = 3 then v + 1 else if k = 4 then v * 2 - 1 else if k = 5 then v / 2 else v
-- texts as rows: 0 and above a number, -1 .. -6 a name, below an operation
def jnS (t l r : Int32) : Int32 := if t = 10 then (if l = 0 ∧ r = 0 then 0 else 1) else if t = 11 then (if l = 0 ∨ r = 0 then 0 else 1) else if t = 60 then (if l < r then 1 else 0) else if t = 61 then (if l = r then 1 else 0) else if t = 43 then l + r else if t = 45 then l - r else l * r
def opS (t : Int32) (s : List Int32) : List Int32 := if t = 12 then (if s.headD 0 = 0 then 1 else 0) :: s.tail else if t = 16 then (-(s.headD 0)) :: s.tail else jnS t (s.tail.headD 0) (s.headD 0) :: s.tail.tail
/-- what a name says: e 2 place, 3 height, 4 day, 5 number, 6 far, else side -/
def nmS (e : Nat → Int32) (n : Int32) : Int32 := if n = 1 then e 2 else if n = 2 then e 3 else if n = 3 then e 4 else if n = 4 then e 5 else if n = 5 then e 6 else e 7
def itS (e : Nat → Int32) (i : Int32) (s : List Int32) : List Int32 := if 0 ≤ i then i :: s else if -6 ≤ i then nmS e (-i) :: s else opS (-i) s
def ruS (e : Nat → Int32) (l : List Int32) (s : List Int32) : List Int32 := l.foldl (fun s i => itS e i s) s
def vaS (e : Nat → Int32) (l : List Int32) : Int32 := (ruS e l []).headD 0
def enS (r : Nat → Int32) (p d f : Int32) : Nat → Int32 := fun i => if i = 2 then p else if i = 3 then r 3 else if i = 4 then d else if i = 5 then r 1 else if i = 6 then (if 0 ≤ p - f then p - f else 0 - (p - f)) else r 4
-- a glove's course by a text T (0 shows, 1 moves, 2 minds), f: FROM
def plS (T : Nat → List Int32) (r : Nat → Int32) (f : Int32) : Nat → Int32
  | 0 => r 2
  | d + 1 => wiS (plS T r f d + moS (r 0) (wiS (vaS (enS r (plS T r f d) (nI d) f) (T 1)) (-19) 19)) 0 19
def whS (T : Nat → List Int32) (r : Nat → Int32) (f : Int32) (d : Nat) : Int32 := if laS r ≤ nI d then -1 else plS T r f d
def toS (T : Nat → List Int32) (r : Nat → Int32) (f : Int32) (p : Int32) (d : Nat) : Int32 := wiS (vaS (enS r p (nI d) f) (T 0)) 0 100
def lkS (T : Nat → List Int32) (r : Nat → Int32) (f a b s : Int32) (d : Nat) : Int32 := if whS T r f d = -1 then 0 else if pas a b (whS T r f d) then shS r (toS T r f (whS T r f d) d) s else 0
def miS (T : Nat → List Int32) (r : Nat → Int32) (f : Int32) (d : Nat) : Int32 := if whS T r f d = -1 then 0 else wiS (vaS (enS r (whS T r f d) (nI d) f) (T 2)) 0 99
/-- what is left behind n days -/
def leS (w : Int64) (lk : Nat → Int32) : Nat → Int64
  | 0 => w
  | d + 1 => leS w lk d * (100 - lk d).toInt64 / 100
def paS (lk : Nat → Int32) (n : Nat) : Int64 := 1000000000 - leS 1000000000 lk n
-- lots
def zS (seed : Int32) : Nat → Int32
  | 0 => seed
  | d + 1 => zS seed d * 1103515245 + 12345
def luS (z : Int32) : Int32 := ((z.toUInt32 >>> ((9 : Int32).toUInt32 &&& Int32.toUInt32 31)).toInt32)
def reS (a b : Int32) : Int32 := a - a / b * b
def seS (lk : Nat → Int32) (seed : Int32) : Nat → Nat → Int32
  | 0, _ => -1
  | k + 1, d => if reS (luS (zS seed (d + 1))) 100 < lk d then nI d else seS lk seed k (d + 1)
-- a stretch of a row
def slS (f : Nat → Int32) (b e : Nat) : List Int32 := (List.range (e - b)).map (fun i => f (b + i))
theorem slS_nil {f : Nat → Int32} {b : Nat} : slS f b b = [] := by simp [slS]
theorem slS_step {f : Nat → Int32} {b e : Nat} (h : b ≤ e) : slS f b (e + 1) = slS f b e ++ [f e] := by
  simp only [slS]
  rw [Nat.succ_sub h, List.range_succ, List.map_append]
  simp [Nat.add_sub_cancel' h]
theorem slS_len {f : Nat → Int32} {b e : Nat} : (slS f b e).length = e - b := by simp [slS]
theorem ruS_app {e : Nat → Int32} {a b s : List Int32} : ruS e (a ++ b) s = ruS e b (ruS e a s) := by simp [ruS, List.foldl_append]
theorem ruS_one {e : Nat → Int32} {i : Int32} {s : List Int32} : ruS e [i] s = itS e i s := rfl
theorem ruS_nil {e : Nat → Int32} {s : List Int32} : ruS e [] s = s := rfl
theorem opS_len {t : Int32} {s : List Int32} : (opS t s).length ≤ s.length + 1 := by
  unfold opS; split
  · simp
    try omega
  · split <;> simp <;> omega
theorem itS_len {e : Nat → Int32} {i : Int32} {s : List Int32} : (itS e i s).length ≤ s.length + 1 := by
  unfold itS; split
  · simp
  · split
    · simp
    · exact opS_len
theorem ruS_len {e : Nat → Int32} : ∀ (l s : List Int32), (ruS e l s).length ≤ s.length + l.length
  | [], s => by simp [ruS]
  | i :: l, s => by
    have h := ruS_len (e := e) l (itS e i s)
    have h2 := itS_len (e := e) (i := i) (s := s)
    simp only [ruS, List.foldl_cons, List.length_cons] at h ⊢
    omega
/-- max and min as the class has them -/
theorem wi_mm {v lo hi : Int32} (h : lo ≤ hi) : (if lo < (if v < hi then v else hi) then (if v < hi then v else hi) else lo) = wiS v lo hi := by
  unfold wiS
  simp only [Int32.lt_iff_toInt_lt, Int32.le_iff_toInt_le] at *
  repeat' split
  all_goals first | rfl | omega | (apply Int32.toInt_inj.mp; omega)
theorem wi_in {v lo hi : Int32} (h : lo ≤ hi) : lo ≤ wiS v lo hi ∧ wiS v lo hi ≤ hi := by
  unfold wiS
  simp only [Int32.lt_iff_toInt_lt, Int32.le_iff_toInt_le] at *
  repeat' split
  all_goals omega
theorem pas_mm {f t p : Int32} : ((if t < f then t else f) ≤ p ∧ p ≤ (if f < t then t else f)) ↔ pas f t p := by
  unfold pas
  simp only [Int32.lt_iff_toInt_lt, Int32.le_iff_toInt_le]
  repeat' split
  all_goals omega
theorem bool_i {r : Int32} {P Q : Prop} (h : P ↔ Q) : ((r = 1 ∧ P) ∨ (r = 0 ∧ ¬ P)) ↔ ((r = 1 ∧ Q) ∨ (r = 0 ∧ ¬ Q)) := by rw [h]
