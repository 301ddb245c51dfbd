/-! calls, entry and return -/
theorem wA_good : ∀ w ∈ wsL_law, (w.onTables && w.keeps) = true ∨ ∃ ty, w = .arrayClass ty := fun w h => (wsL_law_good w h).2
theorem wA_app {big ws l : List Cond} (h : ∀ w ∈ l, w ∈ big ∧ ((w.onTables && w.keeps) = true ∨ ∃ ty, w = .arrayClass ty)) (h2 : GoodIn big ws) : GoodIn big (l ++ ws) := fun w hw => (List.mem_append.mp hw).elim (h w) (h2 w)
/-- a method's link as a virtual one -/
def jMV (own : String) (idx : Nat) (y : MethodName) (cc : ByteArray) (nL : Nat) (ret : Option FieldType) (n : Nat) : Prop :=
  Cond.methodLink own idx y ∈ wsL_law ∧ Cond.instanceMethod y ∈ wsL_law ∧ Cond.selects y.cls y y ∈ wsL_law ∧ Cond.initialized y.cls ∈ wsL_law ∧ Cond.code y cc nL ret ∈ wsL_law ∧ (y.cls ≠ "java/lang/invoke/MethodHandle" ∧ y.cls ≠ "java/lang/invoke/VarHandle" ∧ (parseMethodDescriptor y.desc).map (fun d => d.parameters.length) = some n)
/-- as a static one -/
def jMS (own : String) (idx : Nat) (y : MethodName) (cc : ByteArray) (nL : Nat) (ret : Option FieldType) (n : Nat) : Prop :=
  Cond.methodLink own idx y ∈ wsL_law ∧ Cond.static y ∈ wsL_law ∧ Cond.initialized y.cls ∈ wsL_law ∧ Cond.code y cc nL ret ∈ wsL_law ∧ (y.cls ≠ "java/lang/invoke/MethodHandle" ∧ y.cls ≠ "java/lang/invoke/VarHandle" ∧ (parseMethodDescriptor y.desc).map (fun d => d.parameters.length) = some n)
/-- a constructor -/
def jMI (own : String) (idx : Nat) (y : MethodName) (cc : ByteArray) (nL : Nat) (n : Nat) : Prop :=
  Cond.methodLink own idx y ∈ wsL_law ∧ Cond.instanceMethod y ∈ wsL_law ∧ Cond.initialized y.cls ∈ wsL_law ∧ Cond.code y cc nL none ∈ wsL_law ∧ y.name = "<init>" ∧ (y.cls ≠ "java/lang/invoke/MethodHandle" ∧ y.cls ≠ "java/lang/invoke/VarHandle" ∧ (parseMethodDescriptor y.desc).map (fun d => d.parameters.length) = some n)
/-- nest mates' methods -/
def jNS (own : String) (idx : Nat) (y : MethodName) (cc : ByteArray) (nL : Nat) (ret : Option FieldType) (n : Nat) : Prop :=
  (∃ host : String, Cond.methodLinkNest own idx y host ∈ jNest) ∧ Cond.static y ∈ wsL_law ∧ Cond.initialized y.cls ∈ wsL_law ∧ Cond.code y cc nL ret ∈ wsL_law ∧ (y.cls ≠ "java/lang/invoke/MethodHandle" ∧ y.cls ≠ "java/lang/invoke/VarHandle" ∧ (parseMethodDescriptor y.desc).map (fun d => d.parameters.length) = some n)
def jNI (own : String) (idx : Nat) (y : MethodName) (cc : ByteArray) (nL : Nat) (n : Nat) : Prop :=
  (∃ host : String, Cond.methodLinkNest own idx y host ∈ jNest) ∧ Cond.instanceMethod y ∈ wsL_law ∧ Cond.initialized y.cls ∈ wsL_law ∧ Cond.code y cc nL none ∈ wsL_law ∧ y.name = "<init>" ∧ (y.cls ≠ "java/lang/invoke/MethodHandle" ∧ y.cls ≠ "java/lang/invoke/VarHandle" ∧ (parseMethodDescriptor y.desc).map (fun d => d.parameters.length) = some n)
theorem jG_code {y : MethodName} {cc : ByteArray} {nL : Nat} {ret : Option FieldType} (h : Cond.code y cc nL ret ∈ wsL_law) : GoodIn wsL_law (.code y cc nL ret :: wsL_law) := fun w hw => (List.mem_cons.mp hw).elim (fun e => by rw [e]; exact ⟨h, wA_good _ h⟩) (fun h => ⟨h, wA_good _ h⟩)
theorem jMV_cw {own : String} {idx : Nat} {y : MethodName} {cc : ByteArray} {nL n fr lo mc ms : Nat} {ret : Option FieldType} {R : Room} {args : Array Value} {s : State} (h : jMV own idx y cc nL ret n) (ht : ∀ w ∈ wsL_law, w.before args s = true) (hR : fr + 1 ≤ R.frames ∧ 8 + (nL + 11) + lo ≤ R.locals) : CallW R s args own y.cls idx y cc nL ret (.code y cc nL ret :: wsL_law) (jRm fr lo mc ms) mc ms n :=
  cwV n ht (wA_app (l := [.methodLink own idx y, .instanceMethod y, .selects y.cls y y, .initialized y.cls]) (fun w hw => by
    have hm : w ∈ wsL_law := by
      simp only [List.mem_cons, List.not_mem_nil, or_false] at hw
      rcases hw with rfl | rfl | rfl | rfl
      · exact h.1
      · exact h.2.1
      · exact h.2.2.1
      · exact h.2.2.2.1
    exact ⟨hm, wA_good _ hm⟩) (jG_code h.2.2.2.2.1)) rfl rfl rfl ⟨rfl, h.2.2.2.2.2⟩ hR
theorem jMS_cw {own : String} {idx : Nat} {y : MethodName} {cc : ByteArray} {nL n fr lo mc ms : Nat} {ret : Option FieldType} {R : Room} {args : Array Value} {s : State} (h : jMS own idx y cc nL ret n) (ht : ∀ w ∈ wsL_law, w.before args s = true) (hR : fr + 1 ≤ R.frames ∧ 8 + (nL + 11) + lo ≤ R.locals) : CallB R s args own idx y cc nL ret (.code y cc nL ret :: wsL_law) (jRm fr lo mc ms) mc ms n ∧ (Cond.static y).before args s = true :=
  va_cwS n ht (wA_app (l := [.methodLink own idx y, .static y, .initialized y.cls]) (fun w hw => by
    have hm : w ∈ wsL_law := by
      simp only [List.mem_cons, List.not_mem_nil, or_false] at hw
      rcases hw with rfl | rfl | rfl
      · exact h.1
      · exact h.2.1
      · exact h.2.2.1
    exact ⟨hm, wA_good _ hm⟩) (jG_code h.2.2.2.1)) rfl rfl rfl h.2.2.2.2 hR
theorem jMI_cw {own : String} {idx : Nat} {y : MethodName} {cc : ByteArray} {nL n fr lo mc ms : Nat} {R : Room} {args : Array Value} {s : State} (h : jMI own idx y cc nL n) (ht : ∀ w ∈ wsL_law, w.before args s = true) (hR : fr + 1 ≤ R.frames ∧ 8 + (nL + 11) + lo ≤ R.locals) : CallB R s args own idx y cc nL none (.code y cc nL none :: wsL_law) (jRm fr lo mc ms) mc ms n ∧ y.name = "<init>" ∧ (Cond.instanceMethod y).before args s = true :=
  cwI n ht (jG_code h.2.2.2.1) rfl rfl rfl (ht _ h.2.2.1) (ht _ h.1) (ht _ h.2.1) h.2.2.2.2.1 h.2.2.2.2.2 hR
theorem jNS_cw {own : String} {idx : Nat} {y : MethodName} {cc : ByteArray} {nL n fr lo mc ms : Nat} {ret : Option FieldType} {R : Room} {args : Array Value} {s : State} (h : jNS own idx y cc nL ret n) (ht : ∀ w ∈ wsL_law, w.before args s = true) (hn : ∀ w ∈ jNest, va_Nw w s) (hR : fr + 1 ≤ R.frames ∧ 8 + (nL + 11) + lo ≤ R.locals) : ∃ host : String, va_CN R s args own idx y host cc nL ret (.code y cc nL ret :: wsL_law) (jRm fr lo mc ms) mc ms n ∧ (Cond.static y).before args s = true ∧ True := by
  obtain ⟨⟨host, h1⟩, h2, h3, h4, h5⟩ := h
  exact ⟨host, va_cnB n ht (jG_code h4) rfl rfl rfl (hn _ h1) (ht _ h3) h5 hR, ht _ h2, trivial⟩
theorem jNI_cw {own : String} {idx : Nat} {y : MethodName} {cc : ByteArray} {nL n fr lo mc ms : Nat} {R : Room} {args : Array Value} {s : State} (h : jNI own idx y cc nL n) (ht : ∀ w ∈ wsL_law, w.before args s = true) (hn : ∀ w ∈ jNest, va_Nw w s) (hR : fr + 1 ≤ R.frames ∧ 8 + (nL + 11) + lo ≤ R.locals) : ∃ host : String, va_CN R s args own idx y host cc nL none (.code y cc nL none :: wsL_law) (jRm fr lo mc ms) mc ms n ∧ y.name = "<init>" ∧ (Cond.instanceMethod y).before args s = true := by
  obtain ⟨⟨host, h1⟩, h2, h3, h4, h5, h6⟩ := h
  exact ⟨host, va_cnB n ht (jG_code h4) rfl rfl rfl (hn _ h1) (ht _ h3) h6 hR, h5, ht _ h2⟩
/-- a contract's start doesn't ask for the frame -/
theorem cPr_blind {S : Type} {vs : List Value} {g : jG} {wd : S → va_W} {x : S} {sz : Nat} : FrameBlind (va_Pc vs (cPr g wd x sz)) := fun a U f mk q => by
  obtain ⟨q1, q2, q3, q4, q5, q6⟩ := q
  exact ⟨q1, q2, q3, va_K.moved (u := U) (U := U.calling f mk a) (Vm.Alike.refl U.vm) q4, q5, jE_same (u := U) (U := U.calling f mk a) rfl (Vm.Alike.refl U.vm) q6⟩
theorem va_D_app_l {A : Nat → Prop} {a b : va_W} (h : va_D A (a ++ b)) : va_D A a := ⟨fun i j p q hi hj e => h.1 i j p q (List.getElem?_append_left (List.getElem?_eq_some_iff.mp hi).1 ▸ hi) (List.getElem?_append_left (List.getElem?_eq_some_iff.mp hj).1 ▸ hj) e, fun k q hk => h.2 k q (List.getElem?_append_left (List.getElem?_eq_some_iff.mp hk).1 ▸ hk)⟩
theorem gea_r {α : Type} {a b : List α} {j : Nat} : (a ++ b)[a.length + j]? = b[j]? := by rw [List.getElem?_append_right (Nat.le_add_right _ _), Nat.add_sub_cancel_left]
theorem va_D_app_r {A : Nat → Prop} {a b : va_W} (h : va_D A (a ++ b)) : va_D A b := ⟨fun i j p q hi hj e => by
  have := h.1 (a.length + i) (a.length + j) p q (gea_r.trans hi) (gea_r.trans hj) e
  omega, fun k q hk => h.2 (a.length + k) q (gea_r.trans hk)⟩
theorem va_D_app_x {A : Nat → Prop} {a b : va_W} (h : va_D A (a ++ b)) : ∀ (i j : Nat) (p q : Nat × va_E), a[i]? = some p → b[j]? = some q → p.1 ≠ q.1 := fun i j p q hi hj e => by
  have hl := (List.getElem?_eq_some_iff.mp hi).1
  have := h.1 i (a.length + j) p q (List.getElem?_append_left hl ▸ hi) (gea_r.trans hj) e
  omega
theorem va_P_app_l {D : va_G} {cl : List vw_C} {a b : va_W} {H : Heap} (h : va_P D cl (a ++ b) H) : va_P D cl a H := fun k q hk => h k q (List.getElem?_append_left (List.getElem?_eq_some_iff.mp hk).1 ▸ hk)
theorem va_P_app_r {D : va_G} {cl : List vw_C} {a b : va_W} {H : Heap} (h : va_P D cl (a ++ b) H) : va_P D cl b H := fun k q hk => h (a.length + k) q (gea_r.trans hk)
/-- behind a call: the callee's part of the world is new, the rest as it was -/
theorem j_frame {D : va_G} {cl : List vw_C} {A : Nat → Prop} {u wc v w1 : va_W} {H H1 : Heap} (hP : va_P D cl (u ++ (wc ++ v)) H) (hD : va_D A (u ++ (wc ++ v))) (hk : ∀ q : Nat, q < H.size → ¬ va_A wc H.size q → H1[q]? = H[q]?) (hF : ∀ q, va_A wc H.size q → A q) (hP1 : va_P D cl w1 H1) (hD1 : va_D (va_A wc H.size) w1) : va_P D cl (u ++ (w1 ++ v)) H1 ∧ va_D A (u ++ (w1 ++ v)) := by
  have hPu := va_P_app_l hP
  have hPv := va_P_app_r (va_P_app_r hP)
  have hDu := va_D_app_l hD
  have hDw := va_D_app_r hD
  have hDv := va_D_app_r hDw
  have hxu := va_D_app_x hD
  have hxv := va_D_app_x hDw
  have outu : ∀ (k : Nat) (q : Nat × va_E), u[k]? = some q → q.1 < H.size ∧ ¬ va_A wc H.size q.1 := fun k q hq => by
    have hl := (hPu k q hq).lt
    refine ⟨hl, fun h => ?_⟩
    rcases h with ⟨i, e, h⟩ | h
    · have hi : (wc ++ v)[i]? = some (q.1, e) := by rw [List.getElem?_append_left (List.getElem?_eq_some_iff.mp h).1]; exact h
      exact hxu k i q (q.1, e) hq hi rfl
    · omega
  have outv : ∀ (k : Nat) (q : Nat × va_E), v[k]? = some q → q.1 < H.size ∧ ¬ va_A wc H.size q.1 := fun k q hq => by
    have hl := (hPv k q hq).lt
    refine ⟨hl, fun h => ?_⟩
    rcases h with ⟨i, e, h⟩ | h
    · exact hxv i k (q.1, e) q h hq rfl
    · omega
  have hPu1 := va_P.kept hPu (fun k q hq => hk q.1 (outu k q hq).1 (outu k q hq).2)
  have hPv1 := va_P.kept hPv (fun k q hq => hk q.1 (outv k q hq).1 (outv k q hq).2)
  have hD1' : va_D A w1 := hD1.weaken (fun _ q _ h => hF q.1 h)
  refine ⟨hPu1.app (hP1.app hPv1), hDu.app (hD1'.app hDv (fun i j p q hp hq e => (outv j q hq).2 (e ▸ hD1.2 i p hp))) (fun i j p q hp hq e => ?_)⟩
  rcases Nat.lt_or_ge j w1.length with hj | hj
  · rw [List.getElem?_append_left hj] at hq
    exact (outu i p hp).2 (e ▸ hD1.2 j q hq)
  · rw [List.getElem?_append_right hj] at hq
    refine hxu i (wc.length + (j - w1.length)) p q hp ?_ e
    rw [gea_r]; exact hq
theorem j_freeX {A : Nat → Prop} {u wc v : va_W} {H0 H : Heap} {locs : List Loc} (hD : va_D A (u ++ (wc ++ v))) (hS : va_S A H0 H locs) (hA : ∀ q, H0.size ≤ q → A q) : ∀ q, va_A wc H.size q → A q := fun q h => by
  rcases h with ⟨k, e, h⟩ | h
  · exact (va_D_app_l (va_D_app_r hD)).2 k (q, e) h
  · exact hA q (Nat.le_trans hS.1 h)
/-- a callee's start -/
theorem j_pre {S' : Type} {K : jK} {own : String} {cc : ByteArray} {nL fr lo mc ms : Nat} (C : Cx K own cc nL fr lo mc ms) {wd' : S' → va_W} {x' : S'} {u v : va_W} {H : Heap} {locs : List Loc} {vs : List Value} (hP : va_P (gD (kG K)) vwCl (u ++ (wd' x' ++ v)) H) (hD : va_D (kF K) (u ++ (wd' x' ++ v))) (hS : va_S (kF K) (kS K).heap H locs) : ∀ U : State, U.heap = H → (kS K).WarmedH U.vm → va_Pc vs (cPr (kG K) wd' x' H.size) vs.toArray U := fun U hU hW => by
  have hF := j_freeX hD hS C.2.2.2.2.2.2.1
  refine ⟨rfl, by rw [hU], by rw [hU]; exact va_P_app_l (va_P_app_r hP), va_K.moved hW.alike C.2.2.2.2.2.1, (va_D_app_l (va_D_app_r hD)).weaken (fun _ _ _ _ => trivial), ?_⟩
  rw [hU]
  exact jE_warm hW (jE_narrow (jE_kept C.2.2.2.2.2.2.2.2.2 hS.2.1) hF)
theorem j_callivX {S S' : Type} {K : jK} {wd : S → va_W} {ca sl : Nat} {lv : List (Nat × Value)} {pc : Nat} {st st0 : List Value} {own : String} {cc : ByteArray} {nL fr lo mc ms : Nat} {wd' : S' → va_W} {x : S'} (mk : S' → S) (u v : va_W) (hE : ∀ z, wd (mk z) = u ++ (wd' z ++ v)) {y : MethodName} {cc' : ByteArray} {nL' fr' lo' mc' ms' idx : Nat} {ty : FieldType} {b : Nat} {As : List Value} {post : Int32 → S' → Prop}
    (C : Cx K own cc nL fr lo mc ms) (hM : Ci (kL K) (kG K) y cc' nL' ty fr' lo' mc' ms' wd' (.ref b :: As) x post) (hd : decode cc pc = .ok (.invokevirtual idx, 3)) (hm : jMV own idx y cc' nL' (some ty) As.length) (hq : ∃ (k ci : Nat) (fs : List Value) (r : vw_C), (wd (mk x))[k]? = some (b, .inr (ci, fs)) ∧ vwCl[ci]? = some r ∧ r.1 = y.cls) (hR : fr' + 1 ≤ fr ∧ 8 + (nL' + 11) + lo' ≤ lo ∧ ca + mc' ≤ mc ∧ sl + ms' ≤ ms) (hst : As.reverse ++ .ref b :: st = st0) (hcat : (st.map fun v => v.category).sum ≤ 8)
    (kk : ∀ (r : Int32) (z : S'), post r z → J K wd (ca + mc') (sl + ms') (mk z) lv (pc + 3) (.int r :: st)) : J K wd ca sl (mk x) lv pc st0 := by
  intro H locs ls hP hD hS h
  obtain ⟨k9, ci9, fs9, r9, e1, e2, e3⟩ := hq
  have hrec := va_recv C.2.2.2.2.2.1 hP e2 e1
  rw [e3] at hrec
  have hP' : va_P (gD (kG K)) vwCl (u ++ (wd' x ++ v)) H := hE x ▸ hP
  have hD' : va_D (kF K) (u ++ (wd' x ++ v)) := hE x ▸ hD
  have hF := j_freeX hD' hS C.2.2.2.2.2.2.1
  have hRR := C.2.2.2.2.2.2.2.2.1
  have hR' : fr' + 1 ≤ (kR K).frames ∧ 8 + (nL' + 11) + lo' ≤ (kR K).locals := by rw [hRR]; exact ⟨hR.1, hR.2.1⟩
  have hf' : ca + mc' ≤ (kR K).cells ∧ sl + ms' ≤ (kR K).slots := by rw [hRR]; exact hR.2.2
  refine va_calli (va_runV (As := As) (rest := st) ⟨C.1, C.2.1, C.2.2.1, C.2.2.2.1, C.2.2.2.2.1⟩ (hM H.size) (jMV_cw hm C.2.2.2.2.1 hR') ⟨cPr_blind, hrec, j_pre C hP' hD' hS⟩ rfl rfl (h.1.trans C.2.2.1) hst.symm (lv_room hcat) hd hf') hS (fun q _ h => hF q h) hF (fun r z t H1 locs1 ht hvm hw hB hz1 hk1 hS1 => ?_)
  obtain ⟨hP1, hK1, hD1⟩ := hB
  rw [ht] at hP1
  obtain ⟨hP2, hD2⟩ := j_frame hP' hD' hk1 hF hP1 hD1
  exact kk r z hw H1 locs1 ls (by rw [hE]; exact hP2) (by rw [hE]; exact hD2) hS1 h
theorem j_calliv {S : Type} {K : jK} {wd : S → va_W} {ca sl : Nat} {lv : List (Nat × Value)} {pc : Nat} {st st0 : List Value} {own : String} {cc : ByteArray} {nL fr lo mc ms : Nat} {x : S} {y : MethodName} {cc' : ByteArray} {nL' fr' lo' mc' ms' idx : Nat} {ty : FieldType} {b : Nat} {As : List Value} {post : Int32 → S → Prop}
    (C : Cx K own cc nL fr lo mc ms) (hM : Ci (kL K) (kG K) y cc' nL' ty fr' lo' mc' ms' wd (.ref b :: As) x post) (hd : decode cc pc = .ok (.invokevirtual idx, 3)) (hm : jMV own idx y cc' nL' (some ty) As.length) (hq : ∃ (k ci : Nat) (fs : List Value) (r : vw_C), (wd x)[k]? = some (b, .inr (ci, fs)) ∧ vwCl[ci]? = some r ∧ r.1 = y.cls) (hR : fr' + 1 ≤ fr ∧ 8 + (nL' + 11) + lo' ≤ lo ∧ ca + mc' ≤ mc ∧ sl + ms' ≤ ms) (hst : As.reverse ++ .ref b :: st = st0) (hcat : (st.map fun v => v.category).sum ≤ 8)
    (kk : ∀ (r : Int32) (z : S), post r z → J K wd (ca + mc') (sl + ms') z lv (pc + 3) (.int r :: st)) : J K wd ca sl x lv pc st0 :=
  j_callivX (fun z => z) [] [] (fun z => by rw [List.append_nil]; rfl) C hM hd hm hq hR hst hcat kk
theorem j_callisX {S S' : Type} {K : jK} {wd : S → va_W} {ca sl : Nat} {lv : List (Nat × Value)} {pc : Nat} {st st0 : List Value} {own : String} {cc : ByteArray} {nL fr lo mc ms : Nat} {wd' : S' → va_W} {x : S'} (mk : S' → S) (u v : va_W) (hE : ∀ z, wd (mk z) = u ++ (wd' z ++ v)) {y : MethodName} {cc' : ByteArray} {nL' fr' lo' mc' ms' idx : Nat} {ty : FieldType} {As : List Value} {post : Int32 → S' → Prop}
    (C : Cx K own cc nL fr lo mc ms) (hM : Ci (kL K) (kG K) y cc' nL' ty fr' lo' mc' ms' wd' As x post) (hd : decode cc pc = .ok (.invokestatic idx, 3)) (hm : jMS own idx y cc' nL' (some ty) As.length) (hR : fr' + 1 ≤ fr ∧ 8 + (nL' + 11) + lo' ≤ lo ∧ ca + mc' ≤ mc ∧ sl + ms' ≤ ms) (hst : As.reverse ++ st = st0) (hcat : (st.map fun v => v.category).sum ≤ 8)
    (kk : ∀ (r : Int32) (z : S'), post r z → J K wd (ca + mc') (sl + ms') (mk z) lv (pc + 3) (.int r :: st)) : J K wd ca sl (mk x) lv pc st0 := by
  intro H locs ls hP hD hS h
  have hP' : va_P (gD (kG K)) vwCl (u ++ (wd' x ++ v)) H := hE x ▸ hP
  have hD' : va_D (kF K) (u ++ (wd' x ++ v)) := hE x ▸ hD
  have hF := j_freeX hD' hS C.2.2.2.2.2.2.1
  have hRR := C.2.2.2.2.2.2.2.2.1
  have hR' : fr' + 1 ≤ (kR K).frames ∧ 8 + (nL' + 11) + lo' ≤ (kR K).locals := by rw [hRR]; exact ⟨hR.1, hR.2.1⟩
  have hf' : ca + mc' ≤ (kR K).cells ∧ sl + ms' ≤ (kR K).slots := by rw [hRR]; exact hR.2.2
  refine va_calli (va_runS (As := As) (rest := st) ⟨C.1, C.2.1, C.2.2.1, C.2.2.2.1, C.2.2.2.2.1⟩ (hM H.size) (jMS_cw hm C.2.2.2.2.1 hR') ⟨cPr_blind, j_pre C hP' hD' hS⟩ rfl rfl (h.1.trans C.2.2.1) hst.symm (lv_room hcat) hd hf') hS (fun q _ h => hF q h) hF (fun r z t H1 locs1 ht hvm hw hB hz1 hk1 hS1 => ?_)
  obtain ⟨hP1, hK1, hD1⟩ := hB
  rw [ht] at hP1
  obtain ⟨hP2, hD2⟩ := j_frame hP' hD' hk1 hF hP1 hD1
  exact kk r z hw H1 locs1 ls (by rw [hE]; exact hP2) (by rw [hE]; exact hD2) hS1 h
theorem j_callis {S : Type} {K : jK} {wd : S → va_W} {ca sl : Nat} {lv : List (Nat × Value)} {pc : Nat} {st st0 : List Value} {own : String} {cc : ByteArray} {nL fr lo mc ms : Nat} {x : S} {y : MethodName} {cc' : ByteArray} {nL' fr' lo' mc' ms' idx : Nat} {ty : FieldType} {As : List Value} {post : Int32 → S → Prop}
    (C : Cx K own cc nL fr lo mc ms) (hM : Ci (kL K) (kG K) y cc' nL' ty fr' lo' mc' ms' wd As x post) (hd : decode cc pc = .ok (.invokestatic idx, 3)) (hm : jMS own idx y cc' nL' (some ty) As.length) (hR : fr' + 1 ≤ fr ∧ 8 + (nL' + 11) + lo' ≤ lo ∧ ca + mc' ≤ mc ∧ sl + ms' ≤ ms) (hst : As.reverse ++ st = st0) (hcat : (st.map fun v => v.category).sum ≤ 8)
    (kk : ∀ (r : Int32) (z : S), post r z → J K wd (ca + mc') (sl + ms') z lv (pc + 3) (.int r :: st)) : J K wd ca sl x lv pc st0 :=
  j_callisX (fun z => z) [] [] (fun z => by rw [List.append_nil]; rfl) C hM hd hm hR hst hcat kk
theorem j_callisNX {S S' : Type} {K : jK} {wd : S → va_W} {ca sl : Nat} {lv : List (Nat × Value)} {pc : Nat} {st st0 : List Value} {own : String} {cc : ByteArray} {nL fr lo mc ms : Nat} {wd' : S' → va_W} {x : S'} (mk : S' → S) (u v : va_W) (hE : ∀ z, wd (mk z) = u ++ (wd' z ++ v)) {y : MethodName} {cc' : ByteArray} {nL' fr' lo' mc' ms' idx : Nat} {ty : FieldType} {As : List Value} {post : Int32 → S' → Prop}
    (C : Cx K own cc nL fr lo mc ms) (hM : Ci (kL K) (kG K) y cc' nL' ty fr' lo' mc' ms' wd' As x post) (hd : decode cc pc = .ok (.invokestatic idx, 3)) (hm : jNS own idx y cc' nL' (some ty) As.length) (hR : fr' + 1 ≤ fr ∧ 8 + (nL' + 11) + lo' ≤ lo ∧ ca + mc' ≤ mc ∧ sl + ms' ≤ ms) (hst : As.reverse ++ st = st0) (hcat : (st.map fun v => v.category).sum ≤ 8)
    (kk : ∀ (r : Int32) (z : S'), post r z → J K wd (ca + mc') (sl + ms') (mk z) lv (pc + 3) (.int r :: st)) : J K wd ca sl (mk x) lv pc st0 := by
  intro H locs ls hP hD hS h
  have hP' : va_P (gD (kG K)) vwCl (u ++ (wd' x ++ v)) H := hE x ▸ hP
  have hD' : va_D (kF K) (u ++ (wd' x ++ v)) := hE x ▸ hD
  have hF := j_freeX hD' hS C.2.2.2.2.2.2.1
  have hRR := C.2.2.2.2.2.2.2.2.1
  have hR' : fr' + 1 ≤ (kR K).frames ∧ 8 + (nL' + 11) + lo' ≤ (kR K).locals := by rw [hRR]; exact ⟨hR.1, hR.2.1⟩
  have hf' : ca + mc' ≤ (kR K).cells ∧ sl + ms' ≤ (kR K).slots := by rw [hRR]; exact hR.2.2
  obtain ⟨host9, hcw⟩ := jNS_cw (mc := mc') (ms := ms') hm C.2.2.2.2.1 C.2.2.2.2.2.2.2.2.2.2.2.2.2.2.2.1 hR'
  refine va_calli (va_runSN (As := As) (rest := st) ⟨C.1, C.2.1, C.2.2.1, C.2.2.2.1, C.2.2.2.2.1⟩ (hM H.size) hcw ⟨cPr_blind, j_pre C hP' hD' hS⟩ rfl rfl (h.1.trans C.2.2.1) hst.symm (lv_room hcat) hd hf') hS (fun q _ h => hF q h) hF (fun r z t H1 locs1 ht hvm hw hB hz1 hk1 hS1 => ?_)
  obtain ⟨hP1, hK1, hD1⟩ := hB
  rw [ht] at hP1
  obtain ⟨hP2, hD2⟩ := j_frame hP' hD' hk1 hF hP1 hD1
  exact kk r z hw H1 locs1 ls (by rw [hE]; exact hP2) (by rw [hE]; exact hD2) hS1 h
theorem j_callisN {S : Type} {K : jK} {wd : S → va_W} {ca sl : Nat} {lv : List (Nat × Value)} {pc : Nat} {st st0 : List Value} {own : String} {cc : ByteArray} {nL fr lo mc ms : Nat} {x : S} {y : MethodName} {cc' : ByteArray} {nL' fr' lo' mc' ms' idx : Nat} {ty : FieldType} {As : List Value} {post : Int32 → S → Prop}
    (C : Cx K own cc nL fr lo mc ms) (hM : Ci (kL K) (kG K) y cc' nL' ty fr' lo' mc' ms' wd As x post) (hd : decode cc pc = .ok (.invokestatic idx, 3)) (hm : jNS own idx y cc' nL' (some ty) As.length) (hR : fr' + 1 ≤ fr ∧ 8 + (nL' + 11) + lo' ≤ lo ∧ ca + mc' ≤ mc ∧ sl + ms' ≤ ms) (hst : As.reverse ++ st = st0) (hcat : (st.map fun v => v.category).sum ≤ 8)
    (kk : ∀ (r : Int32) (z : S), post r z → J K wd (ca + mc') (sl + ms') z lv (pc + 3) (.int r :: st)) : J K wd ca sl x lv pc st0 :=
  j_callisNX (fun z => z) [] [] (fun z => by rw [List.append_nil]; rfl) C hM hd hm hR hst hcat kk
theorem j_calllvX {S S' : Type} {K : jK} {wd : S → va_W} {ca sl : Nat} {lv : List (Nat × Value)} {pc : Nat} {st st0 : List Value} {own : String} {cc : ByteArray} {nL fr lo mc ms : Nat} {wd' : S' → va_W} {x : S'} (mk : S' → S) (u v : va_W) (hE : ∀ z, wd (mk z) = u ++ (wd' z ++ v)) {y : MethodName} {cc' : ByteArray} {nL' fr' lo' mc' ms' idx : Nat}  {b : Nat} {As : List Value} {post : Int64 → S' → Prop}
    (C : Cx K own cc nL fr lo mc ms) (hM : Cl (kL K) (kG K) y cc' nL' fr' lo' mc' ms' wd' (.ref b :: As) x post) (hd : decode cc pc = .ok (.invokevirtual idx, 3)) (hm : jMV own idx y cc' nL' (some .long) As.length) (hq : ∃ (k ci : Nat) (fs : List Value) (r : vw_C), (wd (mk x))[k]? = some (b, .inr (ci, fs)) ∧ vwCl[ci]? = some r ∧ r.1 = y.cls) (hR : fr' + 1 ≤ fr ∧ 8 + (nL' + 11) + lo' ≤ lo ∧ ca + mc' ≤ mc ∧ sl + ms' ≤ ms) (hst : As.reverse ++ .ref b :: st = st0) (hcat : (st.map fun v => v.category).sum ≤ 8)
    (kk : ∀ (r : Int64) (z : S'), post r z → J K wd (ca + mc') (sl + ms') (mk z) lv (pc + 3) (.long r :: st)) : J K wd ca sl (mk x) lv pc st0 := by
  intro H locs ls hP hD hS h
  obtain ⟨k9, ci9, fs9, r9, e1, e2, e3⟩ := hq
  have hrec := va_recv C.2.2.2.2.2.1 hP e2 e1
  rw [e3] at hrec
  have hP' : va_P (gD (kG K)) vwCl (u ++ (wd' x ++ v)) H := hE x ▸ hP
  have hD' : va_D (kF K) (u ++ (wd' x ++ v)) := hE x ▸ hD
  have hF := j_freeX hD' hS C.2.2.2.2.2.2.1
  have hRR := C.2.2.2.2.2.2.2.2.1
  have hR' : fr' + 1 ≤ (kR K).frames ∧ 8 + (nL' + 11) + lo' ≤ (kR K).locals := by rw [hRR]; exact ⟨hR.1, hR.2.1⟩
  have hf' : ca + mc' ≤ (kR K).cells ∧ sl + ms' ≤ (kR K).slots := by rw [hRR]; exact hR.2.2
  refine va_calll (va_runV (As := As) (rest := st) ⟨C.1, C.2.1, C.2.2.1, C.2.2.2.1, C.2.2.2.2.1⟩ (hM H.size) (jMV_cw hm C.2.2.2.2.1 hR') ⟨cPr_blind, hrec, j_pre C hP' hD' hS⟩ rfl rfl (h.1.trans C.2.2.1) hst.symm (lv_room hcat) hd hf') hS (fun q _ h => hF q h) hF (fun r z t H1 locs1 ht hvm hw hB hz1 hk1 hS1 => ?_)
  obtain ⟨hP1, hK1, hD1⟩ := hB
  rw [ht] at hP1
  obtain ⟨hP2, hD2⟩ := j_frame hP' hD' hk1 hF hP1 hD1
  exact kk r z hw H1 locs1 ls (by rw [hE]; exact hP2) (by rw [hE]; exact hD2) hS1 h
theorem j_calllv {S : Type} {K : jK} {wd : S → va_W} {ca sl : Nat} {lv : List (Nat × Value)} {pc : Nat} {st st0 : List Value} {own : String} {cc : ByteArray} {nL fr lo mc ms : Nat} {x : S} {y : MethodName} {cc' : ByteArray} {nL' fr' lo' mc' ms' idx : Nat}  {b : Nat} {As : List Value} {post : Int64 → S → Prop}
    (C : Cx K own cc nL fr lo mc ms) (hM : Cl (kL K) (kG K) y cc' nL' fr' lo' mc' ms' wd (.ref b :: As) x post) (hd : decode cc pc = .ok (.invokevirtual idx, 3)) (hm : jMV own idx y cc' nL' (some .long) As.length) (hq : ∃ (k ci : Nat) (fs : List Value) (r : vw_C), (wd x)[k]? = some (b, .inr (ci, fs)) ∧ vwCl[ci]? = some r ∧ r.1 = y.cls) (hR : fr' + 1 ≤ fr ∧ 8 + (nL' + 11) + lo' ≤ lo ∧ ca + mc' ≤ mc ∧ sl + ms' ≤ ms) (hst : As.reverse ++ .ref b :: st = st0) (hcat : (st.map fun v => v.category).sum ≤ 8)
    (kk : ∀ (r : Int64) (z : S), post r z → J K wd (ca + mc') (sl + ms') z lv (pc + 3) (.long r :: st)) : J K wd ca sl x lv pc st0 :=
  j_calllvX (fun z => z) [] [] (fun z => by rw [List.append_nil]; rfl) C hM hd hm hq hR hst hcat kk
theorem j_calllsX {S S' : Type} {K : jK} {wd : S → va_W} {ca sl : Nat} {lv : List (Nat × Value)} {pc : Nat} {st st0 : List Value} {own : String} {cc : ByteArray} {nL fr lo mc ms : Nat} {wd' : S' → va_W} {x : S'} (mk : S' → S) (u v : va_W) (hE : ∀ z, wd (mk z) = u ++ (wd' z ++ v)) {y : MethodName} {cc' : ByteArray} {nL' fr' lo' mc' ms' idx : Nat}  {As : List Value} {post : Int64 → S' → Prop}
    (C : Cx K own cc nL fr lo mc ms) (hM : Cl (kL K) (kG K) y cc' nL' fr' lo' mc' ms' wd' As x post) (hd : decode cc pc = .ok (.invokestatic idx, 3)) (hm : jMS own idx y cc' nL' (some .long) As.length) (hR : fr' + 1 ≤ fr ∧ 8 + (nL' + 11) + lo' ≤ lo ∧ ca + mc' ≤ mc ∧ sl + ms' ≤ ms) (hst : As.reverse ++ st = st0) (hcat : (st.map fun v => v.category).sum ≤ 8)
    (kk : ∀ (r : Int64) (z : S'), post r z → J K wd (ca + mc') (sl + ms') (mk z) lv (pc + 3) (.long r :: st)) : J K wd ca sl (mk x) lv pc st0 := by
  intro H locs ls hP hD hS h
  have hP' : va_P (gD (kG K)) vwCl (u ++ (wd' x ++ v)) H := hE x ▸ hP
  have hD' : va_D (kF K) (u ++ (wd' x ++ v)) := hE x ▸ hD
  have hF := j_freeX hD' hS C.2.2.2.2.2.2.1
  have hRR := C.2.2.2.2.2.2.2.2.1
  have hR' : fr' + 1 ≤ (kR K).frames ∧ 8 + (nL' + 11) + lo' ≤ (kR K).locals := by rw [hRR]; exact ⟨hR.1, hR.2.1⟩
  have hf' : ca + mc' ≤ (kR K).cells ∧ sl + ms' ≤ (kR K).slots := by rw [hRR]; exact hR.2.2
  refine va_calll (va_runS (As := As) (rest := st) ⟨C.1, C.2.1, C.2.2.1, C.2.2.2.1, C.2.2.2.2.1⟩ (hM H.size) (jMS_cw hm C.2.2.2.2.1 hR') ⟨cPr_blind, j_pre C hP' hD' hS⟩ rfl rfl (h.1.trans C.2.2.1) hst.symm (lv_room hcat) hd hf') hS (fun q _ h => hF q h) hF (fun r z t H1 locs1 ht hvm hw hB hz1 hk1 hS1 => ?_)
  obtain ⟨hP1, hK1, hD1⟩ := hB
  rw [ht] at hP1
  obtain ⟨hP2, hD2⟩ := j_frame hP' hD' hk1 hF hP1 hD1
  exact kk r z hw H1 locs1 ls (by rw [hE]; exact hP2) (by rw [hE]; exact hD2) hS1 h
theorem j_callls {S : Type} {K : jK} {wd : S → va_W} {ca sl : Nat} {lv : List (Nat × Value)} {pc : Nat} {st st0 : List Value} {own : String} {cc : ByteArray} {nL fr lo mc ms : Nat} {x : S} {y : MethodName} {cc' : ByteArray} {nL' fr' lo' mc' ms' idx : Nat}  {As : List Value} {post : Int64 → S → Prop}
    (C : Cx K own cc nL fr lo mc ms) (hM : Cl (kL K) (kG K) y cc' nL' fr' lo' mc' ms' wd As x post) (hd : decode cc pc = .ok (.invokestatic idx, 3)) (hm : jMS own idx y cc' nL' (some .long) As.length) (hR : fr' + 1 ≤ fr ∧ 8 + (nL' + 11) + lo' ≤ lo ∧ ca + mc' ≤ mc ∧ sl + ms' ≤ ms) (hst : As.reverse ++ st = st0) (hcat : (st.map fun v => v.category).sum ≤ 8)
    (kk : ∀ (r : Int64) (z : S), post r z → J K wd (ca + mc') (sl + ms') z lv (pc + 3) (.long r :: st)) : J K wd ca sl x lv pc st0 :=
  j_calllsX (fun z => z) [] [] (fun z => by rw [List.append_nil]; rfl) C hM hd hm hR hst hcat kk
theorem j_callvvX {S S' : Type} {K : jK} {wd : S → va_W} {ca sl : Nat} {lv : List (Nat × Value)} {pc : Nat} {st st0 : List Value} {own : String} {cc : ByteArray} {nL fr lo mc ms : Nat} {wd' : S' → va_W} {x : S'} (mk : S' → S) (u v : va_W) (hE : ∀ z, wd (mk z) = u ++ (wd' z ++ v)) {y : MethodName} {cc' : ByteArray} {nL' fr' lo' mc' ms' idx : Nat}  {b : Nat} {As : List Value} {post : S' → Prop}
    (C : Cx K own cc nL fr lo mc ms) (hM : Cv (kL K) (kG K) y cc' nL' fr' lo' mc' ms' wd' (.ref b :: As) x post) (hd : decode cc pc = .ok (.invokevirtual idx, 3)) (hm : jMV own idx y cc' nL' none As.length) (hq : ∃ (k ci : Nat) (fs : List Value) (r : vw_C), (wd (mk x))[k]? = some (b, .inr (ci, fs)) ∧ vwCl[ci]? = some r ∧ r.1 = y.cls) (hR : fr' + 1 ≤ fr ∧ 8 + (nL' + 11) + lo' ≤ lo ∧ ca + mc' ≤ mc ∧ sl + ms' ≤ ms) (hst : As.reverse ++ .ref b :: st = st0) (hcat : (st.map fun v => v.category).sum ≤ 8)
    (kk : ∀  (z : S'), post z → J K wd (ca + mc') (sl + ms') (mk z) lv (pc + 3) ( st)) : J K wd ca sl (mk x) lv pc st0 := by
  intro H locs ls hP hD hS h
  obtain ⟨k9, ci9, fs9, r9, e1, e2, e3⟩ := hq
  have hrec := va_recv C.2.2.2.2.2.1 hP e2 e1
  rw [e3] at hrec
  have hP' : va_P (gD (kG K)) vwCl (u ++ (wd' x ++ v)) H := hE x ▸ hP
  have hD' : va_D (kF K) (u ++ (wd' x ++ v)) := hE x ▸ hD
  have hF := j_freeX hD' hS C.2.2.2.2.2.2.1
  have hRR := C.2.2.2.2.2.2.2.2.1
  have hR' : fr' + 1 ≤ (kR K).frames ∧ 8 + (nL' + 11) + lo' ≤ (kR K).locals := by rw [hRR]; exact ⟨hR.1, hR.2.1⟩
  have hf' : ca + mc' ≤ (kR K).cells ∧ sl + ms' ≤ (kR K).slots := by rw [hRR]; exact hR.2.2
  refine va_callv (va_runV (As := As) (rest := st) ⟨C.1, C.2.1, C.2.2.1, C.2.2.2.1, C.2.2.2.2.1⟩ (hM H.size) (jMV_cw hm C.2.2.2.2.1 hR') ⟨cPr_blind, hrec, j_pre C hP' hD' hS⟩ rfl rfl (h.1.trans C.2.2.1) hst.symm (lv_room hcat) hd hf') hS (fun q _ h => hF q h) hF (fun z t H1 locs1 ht hvm hw hB hz1 hk1 hS1 => ?_)
  obtain ⟨hP1, hK1, hD1⟩ := hB
  rw [ht] at hP1
  obtain ⟨hP2, hD2⟩ := j_frame hP' hD' hk1 hF hP1 hD1
  exact kk z hw H1 locs1 ls (by rw [hE]; exact hP2) (by rw [hE]; exact hD2) hS1 h
theorem j_callvv {S : Type} {K : jK} {wd : S → va_W} {ca sl : Nat} {lv : List (Nat × Value)} {pc : Nat} {st st0 : List Value} {own : String} {cc : ByteArray} {nL fr lo mc ms : Nat} {x : S} {y : MethodName} {cc' : ByteArray} {nL' fr' lo' mc' ms' idx : Nat}  {b : Nat} {As : List Value} {post : S → Prop}
    (C : Cx K own cc nL fr lo mc ms) (hM : Cv (kL K) (kG K) y cc' nL' fr' lo' mc' ms' wd (.ref b :: As) x post) (hd : decode cc pc = .ok (.invokevirtual idx, 3)) (hm : jMV own idx y cc' nL' none As.length) (hq : ∃ (k ci : Nat) (fs : List Value) (r : vw_C), (wd x)[k]? = some (b, .inr (ci, fs)) ∧ vwCl[ci]? = some r ∧ r.1 = y.cls) (hR : fr' + 1 ≤ fr ∧ 8 + (nL' + 11) + lo' ≤ lo ∧ ca + mc' ≤ mc ∧ sl + ms' ≤ ms) (hst : As.reverse ++ .ref b :: st = st0) (hcat : (st.map fun v => v.category).sum ≤ 8)
    (kk : ∀  (z : S), post z → J K wd (ca + mc') (sl + ms') z lv (pc + 3) ( st)) : J K wd ca sl x lv pc st0 :=
  j_callvvX (fun z => z) [] [] (fun z => by rw [List.append_nil]; rfl) C hM hd hm hq hR hst hcat kk
theorem j_callvsX {S S' : Type} {K : jK} {wd : S → va_W} {ca sl : Nat} {lv : List (Nat × Value)} {pc : Nat} {st st0 : List Value} {own : String} {cc : ByteArray} {nL fr lo mc ms : Nat} {wd' : S' → va_W} {x : S'} (mk : S' → S) (u v : va_W) (hE : ∀ z, wd (mk z) = u ++ (wd' z ++ v)) {y : MethodName} {cc' : ByteArray} {nL' fr' lo' mc' ms' idx : Nat}  {As : List Value} {post : S' → Prop}
    (C : Cx K own cc nL fr lo mc ms) (hM : Cv (kL K) (kG K) y cc' nL' fr' lo' mc' ms' wd' As x post) (hd : decode cc pc = .ok (.invokestatic idx, 3)) (hm : jMS own idx y cc' nL' none As.length) (hR : fr' + 1 ≤ fr ∧ 8 + (nL' + 11) + lo' ≤ lo ∧ ca + mc' ≤ mc ∧ sl + ms' ≤ ms) (hst : As.reverse ++ st = st0) (hcat : (st.map fun v => v.category).sum ≤ 8)
    (kk : ∀  (z : S'), post z → J K wd (ca + mc') (sl + ms') (mk z) lv (pc + 3) ( st)) : J K wd ca sl (mk x) lv pc st0 := by
  intro H locs ls hP hD hS h
  have hP' : va_P (gD (kG K)) vwCl (u ++ (wd' x ++ v)) H := hE x ▸ hP
  have hD' : va_D (kF K) (u ++ (wd' x ++ v)) := hE x ▸ hD
  have hF := j_freeX hD' hS C.2.2.2.2.2.2.1
  have hRR := C.2.2.2.2.2.2.2.2.1
  have hR' : fr' + 1 ≤ (kR K).frames ∧ 8 + (nL' + 11) + lo' ≤ (kR K).locals := by rw [hRR]; exact ⟨hR.1, hR.2.1⟩
  have hf' : ca + mc' ≤ (kR K).cells ∧ sl + ms' ≤ (kR K).slots := by rw [hRR]; exact hR.2.2
  refine va_callv (va_runS (As := As) (rest := st) ⟨C.1, C.2.1, C.2.2.1, C.2.2.2.1, C.2.2.2.2.1⟩ (hM H.size) (jMS_cw hm C.2.2.2.2.1 hR') ⟨cPr_blind, j_pre C hP' hD' hS⟩ rfl rfl (h.1.trans C.2.2.1) hst.symm (lv_room hcat) hd hf') hS (fun q _ h => hF q h) hF (fun z t H1 locs1 ht hvm hw hB hz1 hk1 hS1 => ?_)
  obtain ⟨hP1, hK1, hD1⟩ := hB
  rw [ht] at hP1
  obtain ⟨hP2, hD2⟩ := j_frame hP' hD' hk1 hF hP1 hD1
  exact kk z hw H1 locs1 ls (by rw [hE]; exact hP2) (by rw [hE]; exact hD2) hS1 h
theorem j_callvs {S : Type} {K : jK} {wd : S → va_W} {ca sl : Nat} {lv : List (Nat × Value)} {pc : Nat} {st st0 : List Value} {own : String} {cc : ByteArray} {nL fr lo mc ms : Nat} {x : S} {y : MethodName} {cc' : ByteArray} {nL' fr' lo' mc' ms' idx : Nat}  {As : List Value} {post : S → Prop}
    (C : Cx K own cc nL fr lo mc ms) (hM : Cv (kL K) (kG K) y cc' nL' fr' lo' mc' ms' wd As x post) (hd : decode cc pc = .ok (.invokestatic idx, 3)) (hm : jMS own idx y cc' nL' none As.length) (hR : fr' + 1 ≤ fr ∧ 8 + (nL' + 11) + lo' ≤ lo ∧ ca + mc' ≤ mc ∧ sl + ms' ≤ ms) (hst : As.reverse ++ st = st0) (hcat : (st.map fun v => v.category).sum ≤ 8)
    (kk : ∀  (z : S), post z → J K wd (ca + mc') (sl + ms') z lv (pc + 3) ( st)) : J K wd ca sl x lv pc st0 :=
  j_callvsX (fun z => z) [] [] (fun z => by rw [List.append_nil]; rfl) C hM hd hm hR hst hcat kk
theorem j_callviX {S S' : Type} {K : jK} {wd : S → va_W} {ca sl : Nat} {lv : List (Nat × Value)} {pc : Nat} {st st0 : List Value} {own : String} {cc : ByteArray} {nL fr lo mc ms : Nat} {wd' : S' → va_W} {x : S'} (mk : S' → S) (u v : va_W) (hE : ∀ z, wd (mk z) = u ++ (wd' z ++ v)) {y : MethodName} {cc' : ByteArray} {nL' fr' lo' mc' ms' idx : Nat}  {b : Nat} {As : List Value} {post : S' → Prop}
    (C : Cx K own cc nL fr lo mc ms) (hM : Cv (kL K) (kG K) y cc' nL' fr' lo' mc' ms' wd' (.ref b :: As) x post) (hd : decode cc pc = .ok (.invokespecial idx, 3)) (hm : jMI own idx y cc' nL' As.length) (hR : fr' + 1 ≤ fr ∧ 8 + (nL' + 11) + lo' ≤ lo ∧ ca + mc' ≤ mc ∧ sl + ms' ≤ ms) (hst : As.reverse ++ .ref b :: st = st0) (hcat : (st.map fun v => v.category).sum ≤ 8)
    (kk : ∀  (z : S'), post z → J K wd (ca + mc') (sl + ms') (mk z) lv (pc + 3) ( st)) : J K wd ca sl (mk x) lv pc st0 := by
  intro H locs ls hP hD hS h
  have hP' : va_P (gD (kG K)) vwCl (u ++ (wd' x ++ v)) H := hE x ▸ hP
  have hD' : va_D (kF K) (u ++ (wd' x ++ v)) := hE x ▸ hD
  have hF := j_freeX hD' hS C.2.2.2.2.2.2.1
  have hRR := C.2.2.2.2.2.2.2.2.1
  have hR' : fr' + 1 ≤ (kR K).frames ∧ 8 + (nL' + 11) + lo' ≤ (kR K).locals := by rw [hRR]; exact ⟨hR.1, hR.2.1⟩
  have hf' : ca + mc' ≤ (kR K).cells ∧ sl + ms' ≤ (kR K).slots := by rw [hRR]; exact hR.2.2
  refine va_callv (va_runI (As := As) (rest := st) ⟨C.1, C.2.1, C.2.2.1, C.2.2.2.1, C.2.2.2.2.1⟩ (hM H.size) (jMI_cw hm C.2.2.2.2.1 hR') ⟨cPr_blind, j_pre C hP' hD' hS⟩ rfl rfl (h.1.trans C.2.2.1) hst.symm (lv_room hcat) hd hf') hS (fun q _ h => hF q h) hF (fun z t H1 locs1 ht hvm hw hB hz1 hk1 hS1 => ?_)
  obtain ⟨hP1, hK1, hD1⟩ := hB
  rw [ht] at hP1
  obtain ⟨hP2, hD2⟩ := j_frame hP' hD' hk1 hF hP1 hD1
  exact kk z hw H1 locs1 ls (by rw [hE]; exact hP2) (by rw [hE]; exact hD2) hS1 h
theorem j_callvi {S : Type} {K : jK} {wd : S → va_W} {ca sl : Nat} {lv : List (Nat × Value)} {pc : Nat} {st st0 : List Value} {own : String} {cc : ByteArray} {nL fr lo mc ms : Nat} {x : S} {y : MethodName} {cc' : ByteArray} {nL' fr' lo' mc' ms' idx : Nat}  {b : Nat} {As : List Value} {post : S → Prop}
    (C : Cx K own cc nL fr lo mc ms) (hM : Cv (kL K) (kG K) y cc' nL' fr' lo' mc' ms' wd (.ref b :: As) x post) (hd : decode cc pc = .ok (.invokespecial idx, 3)) (hm : jMI own idx y cc' nL' As.length) (hR : fr' + 1 ≤ fr ∧ 8 + (nL' + 11) + lo' ≤ lo ∧ ca + mc' ≤ mc ∧ sl + ms' ≤ ms) (hst : As.reverse ++ .ref b :: st = st0) (hcat : (st.map fun v => v.category).sum ≤ 8)
    (kk : ∀  (z : S), post z → J K wd (ca + mc') (sl + ms') z lv (pc + 3) ( st)) : J K wd ca sl x lv pc st0 :=
  j_callviX (fun z => z) [] [] (fun z => by rw [List.append_nil]; rfl) C hM hd hm hR hst hcat kk
theorem j_callviNX {S S' : Type} {K : jK} {wd : S → va_W} {ca sl : Nat} {lv : List (Nat × Value)} {pc : Nat} {st st0 : List Value} {own : String} {cc : ByteArray} {nL fr lo mc ms : Nat} {wd' : S' → va_W} {x : S'} (mk : S' → S) (u v : va_W) (hE : ∀ z, wd (mk z) = u ++ (wd' z ++ v)) {y : MethodName} {cc' : ByteArray} {nL' fr' lo' mc' ms' idx : Nat}  {b : Nat} {As : List Value} {post : S' → Prop}
    (C : Cx K own cc nL fr lo mc ms) (hM : Cv (kL K) (kG K) y cc' nL' fr' lo' mc' ms' wd' (.ref b :: As) x post) (hd : decode cc pc = .ok (.invokespecial idx, 3)) (hm : jNI own idx y cc' nL' As.length) (hR : fr' + 1 ≤ fr ∧ 8 + (nL' + 11) + lo' ≤ lo ∧ ca + mc' ≤ mc ∧ sl + ms' ≤ ms) (hst : As.reverse ++ .ref b :: st = st0) (hcat : (st.map fun v => v.category).sum ≤ 8)
    (kk : ∀  (z : S'), post z → J K wd (ca + mc') (sl + ms') (mk z) lv (pc + 3) ( st)) : J K wd ca sl (mk x) lv pc st0 := by
  intro H locs ls hP hD hS h
  have hP' : va_P (gD (kG K)) vwCl (u ++ (wd' x ++ v)) H := hE x ▸ hP
  have hD' : va_D (kF K) (u ++ (wd' x ++ v)) := hE x ▸ hD
  have hF := j_freeX hD' hS C.2.2.2.2.2.2.1
  have hRR := C.2.2.2.2.2.2.2.2.1
  have hR' : fr' + 1 ≤ (kR K).frames ∧ 8 + (nL' + 11) + lo' ≤ (kR K).locals := by rw [hRR]; exact ⟨hR.1, hR.2.1⟩
  have hf' : ca + mc' ≤ (kR K).cells ∧ sl + ms' ≤ (kR K).slots := by rw [hRR]; exact hR.2.2
  obtain ⟨host9, hcw⟩ := jNI_cw (mc := mc') (ms := ms') hm C.2.2.2.2.1 C.2.2.2.2.2.2.2.2.2.2.2.2.2.2.2.1 hR'
  refine va_callv (va_runIN (As := As) (rest := st) ⟨C.1, C.2.1, C.2.2.1, C.2.2.2.1, C.2.2.2.2.1⟩ (hM H.size) hcw ⟨cPr_blind, j_pre C hP' hD' hS⟩ rfl rfl (h.1.trans C.2.2.1) hst.symm (lv_room hcat) hd hf') hS (fun q _ h => hF q h) hF (fun z t H1 locs1 ht hvm hw hB hz1 hk1 hS1 => ?_)
  obtain ⟨hP1, hK1, hD1⟩ := hB
  rw [ht] at hP1
  obtain ⟨hP2, hD2⟩ := j_frame hP' hD' hk1 hF hP1 hD1
  exact kk z hw H1 locs1 ls (by rw [hE]; exact hP2) (by rw [hE]; exact hD2) hS1 h
theorem j_callviN {S : Type} {K : jK} {wd : S → va_W} {ca sl : Nat} {lv : List (Nat × Value)} {pc : Nat} {st st0 : List Value} {own : String} {cc : ByteArray} {nL fr lo mc ms : Nat} {x : S} {y : MethodName} {cc' : ByteArray} {nL' fr' lo' mc' ms' idx : Nat}  {b : Nat} {As : List Value} {post : S → Prop}
    (C : Cx K own cc nL fr lo mc ms) (hM : Cv (kL K) (kG K) y cc' nL' fr' lo' mc' ms' wd (.ref b :: As) x post) (hd : decode cc pc = .ok (.invokespecial idx, 3)) (hm : jNI own idx y cc' nL' As.length) (hR : fr' + 1 ≤ fr ∧ 8 + (nL' + 11) + lo' ≤ lo ∧ ca + mc' ≤ mc ∧ sl + ms' ≤ ms) (hst : As.reverse ++ .ref b :: st = st0) (hcat : (st.map fun v => v.category).sum ≤ 8)
    (kk : ∀  (z : S), post z → J K wd (ca + mc') (sl + ms') z lv (pc + 3) ( st)) : J K wd ca sl x lv pc st0 :=
  j_callviNX (fun z => z) [] [] (fun z => by rw [List.append_nil]; rfl) C hM hd hm hR hst hcat kk
theorem j_callqvX {S S' : Type} {K : jK} {wd : S → va_W} {ca sl : Nat} {lv : List (Nat × Value)} {pc : Nat} {st st0 : List Value} {own : String} {cc : ByteArray} {nL fr lo mc ms : Nat} {wd' : S' → va_W} {x : S'} (mk : S' → S) (u v : va_W) (hE : ∀ z, wd (mk z) = u ++ (wd' z ++ v)) {y : MethodName} {cc' : ByteArray} {nL' fr' lo' mc' ms' idx : Nat} {ty : FieldType} {b : Nat} {As : List Value} {post : Option Nat → S' → Prop}
    (C : Cx K own cc nL fr lo mc ms) (hM : Cq (kL K) (kG K) y cc' nL' ty fr' lo' mc' ms' wd' (.ref b :: As) x post) (hd : decode cc pc = .ok (.invokevirtual idx, 3)) (hm : jMV own idx y cc' nL' (some ty) As.length) (hq : ∃ (k ci : Nat) (fs : List Value) (r : vw_C), (wd (mk x))[k]? = some (b, .inr (ci, fs)) ∧ vwCl[ci]? = some r ∧ r.1 = y.cls) (hR : fr' + 1 ≤ fr ∧ 8 + (nL' + 11) + lo' ≤ lo ∧ ca + mc' ≤ mc ∧ sl + ms' ≤ ms) (hst : As.reverse ++ .ref b :: st = st0) (hcat : (st.map fun v => v.category).sum ≤ 8)
    (kk : ∀ (r : Option Nat) (z : S'), post r z → J K wd (ca + mc') (sl + ms') (mk z) lv (pc + 3) (va_rf r :: st)) : J K wd ca sl (mk x) lv pc st0 := by
  intro H locs ls hP hD hS h
  obtain ⟨k9, ci9, fs9, r9, e1, e2, e3⟩ := hq
  have hrec := va_recv C.2.2.2.2.2.1 hP e2 e1
  rw [e3] at hrec
  have hP' : va_P (gD (kG K)) vwCl (u ++ (wd' x ++ v)) H := hE x ▸ hP
  have hD' : va_D (kF K) (u ++ (wd' x ++ v)) := hE x ▸ hD
  have hF := j_freeX hD' hS C.2.2.2.2.2.2.1
  have hRR := C.2.2.2.2.2.2.2.2.1
  have hR' : fr' + 1 ≤ (kR K).frames ∧ 8 + (nL' + 11) + lo' ≤ (kR K).locals := by rw [hRR]; exact ⟨hR.1, hR.2.1⟩
  have hf' : ca + mc' ≤ (kR K).cells ∧ sl + ms' ≤ (kR K).slots := by rw [hRR]; exact hR.2.2
  refine va_callq (va_runV (As := As) (rest := st) ⟨C.1, C.2.1, C.2.2.1, C.2.2.2.1, C.2.2.2.2.1⟩ (hM H.size) (jMV_cw hm C.2.2.2.2.1 hR') ⟨cPr_blind, hrec, j_pre C hP' hD' hS⟩ rfl rfl (h.1.trans C.2.2.1) hst.symm (lv_room hcat) hd hf') hS (fun q _ h => hF q h) hF (fun r z t H1 locs1 ht hvm hw hB hz1 hk1 hS1 => ?_)
  obtain ⟨hP1, hK1, hD1⟩ := hB
  rw [ht] at hP1
  obtain ⟨hP2, hD2⟩ := j_frame hP' hD' hk1 hF hP1 hD1
  exact kk r z hw H1 locs1 ls (by rw [hE]; exact hP2) (by rw [hE]; exact hD2) hS1 h
theorem j_callqv {S : Type} {K : jK} {wd : S → va_W} {ca sl : Nat} {lv : List (Nat × Value)} {pc : Nat} {st st0 : List Value} {own : String} {cc : ByteArray} {nL fr lo mc ms : Nat} {x : S} {y : MethodName} {cc' : ByteArray} {nL' fr' lo' mc' ms' idx : Nat} {ty : FieldType} {b : Nat} {As : List Value} {post : Option Nat → S → Prop}
    (C : Cx K own cc nL fr lo mc ms) (hM : Cq (kL K) (kG K) y cc' nL' ty fr' lo' mc' ms' wd (.ref b :: As) x post) (hd : decode cc pc = .ok (.invokevirtual idx, 3)) (hm : jMV own idx y cc' nL' (some ty) As.length) (hq : ∃ (k ci : Nat) (fs : List Value) (r : vw_C), (wd x)[k]? = some (b, .inr (ci, fs)) ∧ vwCl[ci]? = some r ∧ r.1 = y.cls) (hR : fr' + 1 ≤ fr ∧ 8 + (nL' + 11) + lo' ≤ lo ∧ ca + mc' ≤ mc ∧ sl + ms' ≤ ms) (hst : As.reverse ++ .ref b :: st = st0) (hcat : (st.map fun v => v.category).sum ≤ 8)
    (kk : ∀ (r : Option Nat) (z : S), post r z → J K wd (ca + mc') (sl + ms') z lv (pc + 3) (va_rf r :: st)) : J K wd ca sl x lv pc st0 :=
  j_callqvX (fun z => z) [] [] (fun z => by rw [List.append_nil]; rfl) C hM hd hm hq hR hst hcat kk
theorem j_callqsX {S S' : Type} {K : jK} {wd : S → va_W} {ca sl : Nat} {lv : List (Nat × Value)} {pc : Nat} {st st0 : List Value} {own : String} {cc : ByteArray} {nL fr lo mc ms : Nat} {wd' : S' → va_W} {x : S'} (mk : S' → S) (u v : va_W) (hE : ∀ z, wd (mk z) = u ++ (wd' z ++ v)) {y : MethodName} {cc' : ByteArray} {nL' fr' lo' mc' ms' idx : Nat} {ty : FieldType} {As : List Value} {post : Option Nat → S' → Prop}
    (C : Cx K own cc nL fr lo mc ms) (hM : Cq (kL K) (kG K) y cc' nL' ty fr' lo' mc' ms' wd' As x post) (hd : decode cc pc = .ok (.invokestatic idx, 3)) (hm : jMS own idx y cc' nL' (some ty) As.length) (hR : fr' + 1 ≤ fr ∧ 8 + (nL' + 11) + lo' ≤ lo ∧ ca + mc' ≤ mc ∧ sl + ms' ≤ ms) (hst : As.reverse ++ st = st0) (hcat : (st.map fun v => v.category).sum ≤ 8)
    (kk : ∀ (r : Option Nat) (z : S'), post r z → J K wd (ca + mc') (sl + ms') (mk z) lv (pc + 3) (va_rf r :: st)) : J K wd ca sl (mk x) lv pc st0 := by
  intro H locs ls hP hD hS h
  have hP' : va_P (gD (kG K)) vwCl (u ++ (wd' x ++ v)) H := hE x ▸ hP
  have hD' : va_D (kF K) (u ++ (wd' x ++ v)) := hE x ▸ hD
  have hF := j_freeX hD' hS C.2.2.2.2.2.2.1
  have hRR := C.2.2.2.2.2.2.2.2.1
  have hR' : fr' + 1 ≤ (kR K).frames ∧ 8 + (nL' + 11) + lo' ≤ (kR K).locals := by rw [hRR]; exact ⟨hR.1, hR.2.1⟩
  have hf' : ca + mc' ≤ (kR K).cells ∧ sl + ms' ≤ (kR K).slots := by rw [hRR]; exact hR.2.2
  refine va_callq (va_runS (As := As) (rest := st) ⟨C.1, C.2.1, C.2.2.1, C.2.2.2.1, C.2.2.2.2.1⟩ (hM H.size) (jMS_cw hm C.2.2.2.2.1 hR') ⟨cPr_blind, j_pre C hP' hD' hS⟩ rfl rfl (h.1.trans C.2.2.1) hst.symm (lv_room hcat) hd hf') hS (fun q _ h => hF q h) hF (fun r z t H1 locs1 ht hvm hw hB hz1 hk1 hS1 => ?_)
  obtain ⟨hP1, hK1, hD1⟩ := hB
  rw [ht] at hP1
  obtain ⟨hP2, hD2⟩ := j_frame hP' hD' hk1 hF hP1 hD1
  exact kk r z hw H1 locs1 ls (by rw [hE]; exact hP2) (by rw [hE]; exact hD2) hS1 h
theorem j_callqs {S : Type} {K : jK} {wd : S → va_W} {ca sl : Nat} {lv : List (Nat × Value)} {pc : Nat} {st st0 : List Value} {own : String} {cc : ByteArray} {nL fr lo mc ms : Nat} {x : S} {y : MethodName} {cc' : ByteArray} {nL' fr' lo' mc' ms' idx : Nat} {ty : FieldType} {As : List Value} {post : Option Nat → S → Prop}
    (C : Cx K own cc nL fr lo mc ms) (hM : Cq (kL K) (kG K) y cc' nL' ty fr' lo' mc' ms' wd As x post) (hd : decode cc pc = .ok (.invokestatic idx, 3)) (hm : jMS own idx y cc' nL' (some ty) As.length) (hR : fr' + 1 ≤ fr ∧ 8 + (nL' + 11) + lo' ≤ lo ∧ ca + mc' ≤ mc ∧ sl + ms' ≤ ms) (hst : As.reverse ++ st = st0) (hcat : (st.map fun v => v.category).sum ≤ 8)
    (kk : ∀ (r : Option Nat) (z : S), post r z → J K wd (ca + mc') (sl + ms') z lv (pc + 3) (va_rf r :: st)) : J K wd ca sl x lv pc st0 :=
  j_callqsX (fun z => z) [] [] (fun z => by rw [List.append_nil]; rfl) C hM hd hm hR hst hcat kk
theorem mk_i {S : Type} {l : Launch} {g : jG} {y : MethodName} {cc : ByteArray} {nL fr lo mc ms : Nat} {ty : FieldType} {wd : S → va_W} {vs : List Value} {x : S} {post : Int32 → S → Prop} (hy : plainName y.cls = true) (hL : Nat.ble (lg_sl vs).length nL = true)
    (body : ∀ K : jK, kL K = l → kG K = g → Cx K y.cls cc nL fr lo mc ms → (y.name = "<init>" → (kMe K).name = "<init>") →
      (∀ (pc : Nat) (lv : List (Nat × Value)) (r : Int32) (z : S), decode cc pc = .ok (.ireturn, 1) →  narrow ty (.int r) = .int r → post r z → J K wd mc ms z lv pc [.int r]) → J K wd 0 0 x (lv_args 0 vs) 0 []) : Ci l g y cc nL ty fr lo mc ms wd vs x post := by
  intro sz
  refine Met.ofW (cc := cc) (maxL := nL) (ret := (some ty)) hy rfl ?_
  intro p e s m args below meth c s₁ B hml hv
  obtain ⟨rfl, hsz, hP, hK, hD0, hE⟩ := hv
  have hx := B.exec
  have hb := B.bytes
  have hr := B.returns
  have hts := atoms_spec (ws := .code y cc nL (some ty) :: wsL_law) B.pre
  have hown : s.vm.findClass y.cls = some m.cls := findClass_of_methodNamed B.named
  have hlocks := B.notSynchronized
  have hin : y.name = "<init>" → meth.name = "<init>" := fun q => (name_of_methodNamed B.named B.method).1.trans q
  subst hsz
  have hD := hD0.self (sz := s.heap.size)
  have hA : ∀ q : Nat, s.heap.size ≤ q → va_A (wd x) s.heap.size q := fun q h => Or.inr h
  have hl := lv_entry vs (n := nL) (Nat.le_of_ble_eq_true hL)
  rw [lg_entry_eq]
  have key := body ((p, l, e, jRm fr lo mc ms, s, m, vs.toArray, below, meth, c), g, va_A (wd x) s.heap.size, MQ below (va_Qi post (cBo g wd (va_A (wd x) s.heap.size)) (va_A (wd x) s.heap.size)) vs.toArray s mc ms (va_A (wd x) s.heap.size)) rfl rfl
    ⟨hx, hb, hml, hown, fun w hw => hts w (List.mem_cons_of_mem _ hw), hK, hA, hlocks, rfl, hE⟩ hin ?_
  · exact key s.heap [] _ hP hD va_S.rf (hml ▸ hl)
  · intro pc lv r z hd hn hz H locs ls hP1 hD1 hS1 h1
    exact W.zret (v := r) hx hb hr hn (fun t ht hW => ⟨⟨r, z, rfl, hz, by rw [ht]; exact hP1, va_K.moved hW.alike hK, hD1⟩, hS1.F ht⟩) hS1.2.2 hd hlocks
theorem mk_l {S : Type} {l : Launch} {g : jG} {y : MethodName} {cc : ByteArray} {nL fr lo mc ms : Nat}  {wd : S → va_W} {vs : List Value} {x : S} {post : Int64 → S → Prop} (hy : plainName y.cls = true) (hL : Nat.ble (lg_sl vs).length nL = true)
    (body : ∀ K : jK, kL K = l → kG K = g → Cx K y.cls cc nL fr lo mc ms → (y.name = "<init>" → (kMe K).name = "<init>") →
      (∀ (pc : Nat) (lv : List (Nat × Value)) (r : Int64) (z : S), decode cc pc = .ok (.lreturn, 1) → post r z → J K wd mc ms z lv pc [.long r]) → J K wd 0 0 x (lv_args 0 vs) 0 []) : Cl l g y cc nL fr lo mc ms wd vs x post := by
  intro sz
  refine Met.ofW (cc := cc) (maxL := nL) (ret := (some .long)) hy rfl ?_
  intro p e s m args below meth c s₁ B hml hv
  obtain ⟨rfl, hsz, hP, hK, hD0, hE⟩ := hv
  have hx := B.exec
  have hb := B.bytes
  have hr := B.returns
  have hts := atoms_spec (ws := .code y cc nL (some .long) :: wsL_law) B.pre
  have hown : s.vm.findClass y.cls = some m.cls := findClass_of_methodNamed B.named
  have hlocks := B.notSynchronized
  have hin : y.name = "<init>" → meth.name = "<init>" := fun q => (name_of_methodNamed B.named B.method).1.trans q
  subst hsz
  have hD := hD0.self (sz := s.heap.size)
  have hA : ∀ q : Nat, s.heap.size ≤ q → va_A (wd x) s.heap.size q := fun q h => Or.inr h
  have hl := lv_entry vs (n := nL) (Nat.le_of_ble_eq_true hL)
  rw [lg_entry_eq]
  have key := body ((p, l, e, jRm fr lo mc ms, s, m, vs.toArray, below, meth, c), g, va_A (wd x) s.heap.size, MQ below (va_Ql post (cBo g wd (va_A (wd x) s.heap.size)) (va_A (wd x) s.heap.size)) vs.toArray s mc ms (va_A (wd x) s.heap.size)) rfl rfl
    ⟨hx, hb, hml, hown, fun w hw => hts w (List.mem_cons_of_mem _ hw), hK, hA, hlocks, rfl, hE⟩ hin ?_
  · exact key s.heap [] _ hP hD va_S.rf (hml ▸ hl)
  · intro pc lv r z hd hz H locs ls hP1 hD1 hS1 h1
    exact W.lret (v := r) hx hb hr (fun t ht hW => ⟨⟨r, z, rfl, hz, by rw [ht]; exact hP1, va_K.moved hW.alike hK, hD1⟩, hS1.F ht⟩) hS1.2.2 hd hlocks
theorem mk_v {S : Type} {l : Launch} {g : jG} {y : MethodName} {cc : ByteArray} {nL fr lo mc ms : Nat}  {wd : S → va_W} {vs : List Value} {x : S} {post : S → Prop} (hy : plainName y.cls = true) (hL : Nat.ble (lg_sl vs).length nL = true)
    (body : ∀ K : jK, kL K = l → kG K = g → Cx K y.cls cc nL fr lo mc ms → (y.name = "<init>" → (kMe K).name = "<init>") →
      (∀ (pc : Nat) (lv : List (Nat × Value))  (z : S), decode cc pc = .ok (.return_, 1) → post z → J K wd mc ms z lv pc []) → J K wd 0 0 x (lv_args 0 vs) 0 []) : Cv l g y cc nL fr lo mc ms wd vs x post := by
  intro sz
  refine Met.ofW (cc := cc) (maxL := nL) (ret := none) hy rfl ?_
  intro p e s m args below meth c s₁ B hml hv
  obtain ⟨rfl, hsz, hP, hK, hD0, hE⟩ := hv
  have hx := B.exec
  have hb := B.bytes
  have hr := B.returns
  have hts := atoms_spec (ws := .code y cc nL none :: wsL_law) B.pre
  have hown : s.vm.findClass y.cls = some m.cls := findClass_of_methodNamed B.named
  have hlocks := B.notSynchronized
  have hin : y.name = "<init>" → meth.name = "<init>" := fun q => (name_of_methodNamed B.named B.method).1.trans q
  subst hsz
  have hD := hD0.self (sz := s.heap.size)
  have hA : ∀ q : Nat, s.heap.size ≤ q → va_A (wd x) s.heap.size q := fun q h => Or.inr h
  have hl := lv_entry vs (n := nL) (Nat.le_of_ble_eq_true hL)
  rw [lg_entry_eq]
  have key := body ((p, l, e, jRm fr lo mc ms, s, m, vs.toArray, below, meth, c), g, va_A (wd x) s.heap.size, MQ below (va_Qv post (cBo g wd (va_A (wd x) s.heap.size)) (va_A (wd x) s.heap.size)) vs.toArray s mc ms (va_A (wd x) s.heap.size)) rfl rfl
    ⟨hx, hb, hml, hown, fun w hw => hts w (List.mem_cons_of_mem _ hw), hK, hA, hlocks, rfl, hE⟩ hin ?_
  · exact key s.heap [] _ hP hD va_S.rf (hml ▸ hl)
  · intro pc lv z hd hz H locs ls hP1 hD1 hS1 h1
    exact W.vret hx hb hr (fun t ht hW => ⟨⟨z, rfl, hz, by rw [ht]; exact hP1, va_K.moved hW.alike hK, hD1⟩, hS1.F ht⟩) hS1.2.2 hd hlocks
theorem mk_q {S : Type} {l : Launch} {g : jG} {y : MethodName} {cc : ByteArray} {nL fr lo mc ms : Nat} {ty : FieldType} {wd : S → va_W} {vs : List Value} {x : S} {post : Option Nat → S → Prop} (hy : plainName y.cls = true) (hrt : (∃ n, ty = .object n) ∨ ∃ t, ty = .array t) (hL : Nat.ble (lg_sl vs).length nL = true)
    (body : ∀ K : jK, kL K = l → kG K = g → Cx K y.cls cc nL fr lo mc ms → (y.name = "<init>" → (kMe K).name = "<init>") →
      (∀ (pc : Nat) (lv : List (Nat × Value)) (r : Option Nat) (z : S), decode cc pc = .ok (.areturn, 1) → post r z → J K wd mc ms z lv pc [va_rf r]) → J K wd 0 0 x (lv_args 0 vs) 0 []) : Cq l g y cc nL ty fr lo mc ms wd vs x post := by
  intro sz
  refine Met.ofW (cc := cc) (maxL := nL) (ret := (some ty)) hy rfl ?_
  intro p e s m args below meth c s₁ B hml hv
  obtain ⟨rfl, hsz, hP, hK, hD0, hE⟩ := hv
  have hx := B.exec
  have hb := B.bytes
  have hr := B.returns
  have hts := atoms_spec (ws := .code y cc nL (some ty) :: wsL_law) B.pre
  have hown : s.vm.findClass y.cls = some m.cls := findClass_of_methodNamed B.named
  have hlocks := B.notSynchronized
  have hin : y.name = "<init>" → meth.name = "<init>" := fun q => (name_of_methodNamed B.named B.method).1.trans q
  subst hsz
  have hD := hD0.self (sz := s.heap.size)
  have hA : ∀ q : Nat, s.heap.size ≤ q → va_A (wd x) s.heap.size q := fun q h => Or.inr h
  have hl := lv_entry vs (n := nL) (Nat.le_of_ble_eq_true hL)
  rw [lg_entry_eq]
  have key := body ((p, l, e, jRm fr lo mc ms, s, m, vs.toArray, below, meth, c), g, va_A (wd x) s.heap.size, MQ below (va_Qq post (cBo g wd (va_A (wd x) s.heap.size)) (va_A (wd x) s.heap.size)) vs.toArray s mc ms (va_A (wd x) s.heap.size)) rfl rfl
    ⟨hx, hb, hml, hown, fun w hw => hts w (List.mem_cons_of_mem _ hw), hK, hA, hlocks, rfl, hE⟩ hin ?_
  · exact key s.heap [] _ hP hD va_S.rf (hml ▸ hl)
  · intro pc lv r z hd hz H locs ls hP1 hD1 hS1 h1
    exact W.aret (v := va_rf r) hx hb hr hrt (by cases r with | none => exact Or.inl rfl | some a => exact Or.inr ⟨a, rfl⟩) (fun t ht hW => ⟨⟨r, z, rfl, hz, by rw [ht]; exact hP1, va_K.moved hW.alike hK, hD1⟩, hS1.F ht⟩) hS1.2.2 hd hlocks
