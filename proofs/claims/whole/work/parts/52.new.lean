/-! NEW OBJECTS: the world as a list -/
abbrev lW : va_W → va_W := fun w => w
theorem arrV_c {cI : ClassId} {N : Nat} {f h : Nat → Value} (e : ∀ j, j < N → f j = h j) : arrV cI N f = arrV cI N h := by
  have e1 : (arrV cI N f).slots = (arrV cI N h).slots := by
    apply Array.ext_getElem?
    intro j
    by_cases hj : j < N
    · rw [arrV_read cI f hj, arrV_read cI h hj, e j hj]
    · rw [Array.getElem?_eq_none (by rw [arrV_size]; omega), Array.getElem?_eq_none (by rw [arrV_size]; omega)]
  unfold arrV at e1 ⊢
  simpa using e1
section
variable {K : jK} {ca sl : Nat} {lv : List (Nat × Value)} {pc : Nat} {st : List Value} {own : String} {cc : ByteArray} {nL fr lo mc ms : Nat}
/-- the world told otherwise -/
theorem j_conv {S S' : Type} {wd : S → va_W} {wd' : S' → va_W} {x : S} (y : S') (hP : ∀ H, va_P (gD (kG K)) vwCl (wd x) H → va_P (gD (kG K)) vwCl (wd' y) H) (hD : va_D (kF K) (wd x) → va_D (kF K) (wd' y)) (k : J K wd' ca sl y lv pc st) : J K wd ca sl x lv pc st := fun H locs ls h1 h2 hS h => k H locs ls (hP H h1) (hD h2) hS h
theorem va_Pre {D : va_G} {cl : List vw_C} {ws : va_W} {H : Heap} {k a : Nat} {cA : ClassId} {N : Nat} {f : Nat → Option Nat} (f' : Nat → Option Nat) (h : va_P D cl ws H) (he : ws[k]? = some (a, .inl (cA, N, .inr (.inr (.inr (.inr f)))))) (hf : ∀ j, j < N → f j = f' j) : va_P D cl (ws.set k (a, .inl (cA, N, .inr (.inr (.inr (.inr f')))))) H := by
  intro j q hq
  rw [List.getElem?_set] at hq
  by_cases e : k = j
  · rw [if_pos e] at hq
    split at hq
    · cases hq
      have h1 := h k _ he
      show H[a]? = some (vp_cell cA (N, .inr (.inr (.inr (.inr f')))))
      have h2 : H[a]? = some (vp_cell cA (N, .inr (.inr (.inr (.inr f))))) := h1
      rw [h2, vp_cell_q, vp_cell_q]
      exact congrArg some (arrV_c (fun j hj => by rw [hf j hj]))
    · cases hq
  · rw [if_neg e] at hq; exact h j q hq
theorem j_objI {S : Type} {wd : S → va_W} {x : S} (C : Cx K own cc nL fr lo mc ms) {idx a : Nat} (hd : decode cc pc = .ok (.invokespecial idx, 3)) (hw : Cond.methodLink own idx objectInit ∈ wsL_law ∧ Cond.instanceMethod objectInit ∈ wsL_law ∧ Cond.code objectInit ⟨#[0xb1]⟩ 1 none ∈ wsL_law) (hf : 1 ≤ fr) (hlo : 2 * 0 + (st.map fun v => v.category).sum + 12 ≤ lo) (kk : J K wd ca sl x lv (pc + 3) st) : J K wd ca sl x lv pc (.ref a :: st) := by
  have hR := C.2.2.2.2.2.2.2.2.1
  intro H locs ls hP hD hS h
  exact W.objInit C.1 C.2.1 C.2.2.2.1 (C.2.2.2.2.1 _ hw.1) (C.2.2.2.2.1 _ hw.2.1) (C.2.2.2.2.1 _ hw.2.2) rfl h.1 rfl hd (by rw [hR]; exact hf) (by rw [hR]; exact hlo) (kk H locs ls hP hD hS h)
theorem j_newI (C : Cx K own cc nL fr lo mc ms) {x : va_W} {n : Int32} {N : Nat} (hd : decode cc pc = .ok (.newarray .int, 2)) (hw : Cond.arrayClass (newarray.typeOf .int) ∈ wsL_law) (hn : ¬ n < 0) (hN : n.toNatClampNeg = N) (hb : N * componentBytes .int ≤ 536870912) (hc : ca + 1 ≤ mc) (hs : sl + N ≤ ms) (kk : ∀ q : Nat, J K lW (ca + 1) (sl + N) (x ++ [(q, .inl (gI (kG K), N, .inl (fun _ => 0)))]) lv (pc + 2) (.ref q :: st)) : J K lW ca sl x lv pc (.int n :: st) := by
  have hR := C.2.2.2.2.2.2.2.2.1
  have hK := C.2.2.2.2.2.1
  intro H locs ls hP hD hS h
  refine va_newa (atype := .int) (ty := .int) (a0 := (N, .inl (fun _ => 0))) C.1 C.2.1 (C.2.2.2.2.1 _ hw) rfl hK hP hD hS C.2.2.2.2.2.2.1 (fun _ => rfl) hn hN hb (by rw [hR]; exact hc) (by rw [hR]; exact hs) hd (fun q cA H1 hK1 hP1 hD1 hS1 => ?_)
  have e1 := va_nm_int (hK1.2 5 (cA, .int) rfl).2
  have e0 := va_nm_int (hK.2 0 _ gty_0).2
  have e : cA = gI (kG K) := Option.some.inj (e1.symm.trans e0)
  subst e
  exact kk q H1 locs ls hP1 hD1 hS1 h
theorem j_newZ (C : Cx K own cc nL fr lo mc ms) {x : va_W} {n : Int32} {N : Nat} (hd : decode cc pc = .ok (.newarray .boolean, 2)) (hw : Cond.arrayClass (newarray.typeOf .boolean) ∈ wsL_law) (hn : ¬ n < 0) (hN : n.toNatClampNeg = N) (hb : N * componentBytes .boolean ≤ 536870912) (hc : ca + 1 ≤ mc) (hs : sl + N ≤ ms) (kk : ∀ q : Nat, J K lW (ca + 1) (sl + N) (x ++ [(q, .inl (gZ (kG K), N, .inl (fun _ => 0)))]) lv (pc + 2) (.ref q :: st)) : J K lW ca sl x lv pc (.int n :: st) := by
  have hR := C.2.2.2.2.2.2.2.2.1
  have hK := C.2.2.2.2.2.1
  intro H locs ls hP hD hS h
  refine va_newa (atype := .boolean) (ty := .boolean) (a0 := (N, .inl (fun _ => 0))) C.1 C.2.1 (C.2.2.2.2.1 _ hw) rfl hK hP hD hS C.2.2.2.2.2.2.1 (fun _ => rfl) hn hN hb (by rw [hR]; exact hc) (by rw [hR]; exact hs) hd (fun q cA H1 hK1 hP1 hD1 hS1 => ?_)
  have e1 := va_nm_boolean (hK1.2 5 (cA, .boolean) rfl).2
  have e0 := va_nm_boolean (hK.2 1 _ gty_1).2
  have e : cA = gZ (kG K) := Option.some.inj (e1.symm.trans e0)
  subst e
  exact kk q H1 locs ls hP1 hD1 hS1 h
theorem j_newQ (C : Cx K own cc nL fr lo mc ms) {x : va_W} {n : Int32} {N idx t : Nat} {Cn : String} {cA0 : ClassId} (ht : (gty (kG K))[t]? = some (cA0, .object Cn)) (hd : decode cc pc = .ok (.anewarray idx, 3)) (hw : Cond.classLink own idx Cn ∈ wsL_law) (ho : va_AO Cn (kS K)) (hn : ¬ n < 0) (hN : n.toNatClampNeg = N) (hb : N * 4 ≤ 536870912) (hc : ca + 1 ≤ mc) (hs : sl + N ≤ ms) (kk : ∀ q : Nat, J K lW (ca + 1) (sl + N) (x ++ [(q, .inl (cA0, N, .inr (.inr (.inr (.inr (fun _ => none))))))]) lv (pc + 3) (.ref q :: st)) : J K lW ca sl x lv pc (.int n :: st) := by
  have hR := C.2.2.2.2.2.2.2.2.1
  have hK := C.2.2.2.2.2.1
  intro H locs ls hP hD hS h
  refine va_newq C.1 C.2.1 C.2.2.2.1 (C.2.2.2.2.1 _ hw) ho hK hP hD hS C.2.2.2.2.2.2.1 hn hN hb (by rw [hR]; exact hc) (by rw [hR]; exact hs) hd (fun q cA H1 hK1 hP1 hD1 hS1 => ?_)
  have e1 := va_nmO (hK1.2 5 (cA, .object Cn) rfl).2 rfl
  have e0 := va_nmO (hK.2 t _ ht).2 rfl
  have e : cA = cA0 := Option.some.inj (e1.symm.trans e0)
  subst e
  exact kk q H1 locs ls hP1 hD1 hS1 h
/-- an object of class ci, its fields at first -/
def jNw (own : String) (idx ci N : Nat) (fs : List Value) : Prop := ∃ (Cn : String) (T : u_T) (ty : Nat → FieldType), vwCl[ci]? = some (Cn, T, N) ∧ (∀ w ∈ u_ws Cn T N, w ∈ wsL_law) ∧ (∀ k, k < N → parseFieldDescriptor (T k).2.2.1 = some (ty k)) ∧ Cond.classLink own idx Cn ∈ wsL_law ∧ Cond.instantiable Cn N ∈ wsL_law ∧ Cond.initialized Cn ∈ wsL_law ∧ ∀ j, j < N → defaultValue (ty j) = vp_V fs j
theorem j_new (C : Cx K own cc nL fr lo mc ms) {x : va_W} {idx ci N : Nat} {fs : List Value} (hw : jNw own idx ci N fs) (hd : decode cc pc = .ok (.new idx, 3)) (hc : ca + 1 ≤ mc) (hs : sl + N ≤ ms) (kk : ∀ q : Nat, J K lW (ca + 1) (sl + N) (x ++ [(q, .inr (ci, fs))]) lv (pc + 3) (.ref q :: st)) : J K lW ca sl x lv pc st := by
  obtain ⟨Cn, T, ty, h1, h2, h3, h4, h5, h6, h7⟩ := hw
  have hR := C.2.2.2.2.2.2.2.2.1
  have hK := C.2.2.2.2.2.1
  intro H locs ls hP hD hS h
  exact va_new C.1 C.2.1 C.2.2.2.2.1 h2 ty h3 C.2.2.2.1 (C.2.2.2.2.1 _ h4) (C.2.2.2.2.1 _ h5) (C.2.2.2.2.1 _ h6) hK hP hD hS C.2.2.2.2.2.2.1 h1 h7 (by rw [hR]; exact hc) (by rw [hR]; exact hs) hd (fun q H1 hP1 hD1 hS1 => kk q H1 locs ls hP1 hD1 hS1 h)
theorem j_ctorN (C : Cx K own cc nL fr lo mc ms) (u : va_W) {o : Nat × va_E} {y : MethodName} {cc' : ByteArray} {nL' fr' lo' mc' ms' idx b : Nat} {post : va_W → Prop} (hM : Cv (kL K) (kG K) y cc' nL' fr' lo' mc' ms' lW [.ref b] [o] post) (hd : decode cc pc = .ok (.invokespecial idx, 3)) (hm : jNI own idx y cc' nL' 0) (hR : fr' + 1 ≤ fr ∧ 8 + (nL' + 11) + lo' ≤ lo ∧ ca + mc' ≤ mc ∧ sl + ms' ≤ ms) (hcat : (st.map fun v => v.category).sum ≤ 8)
    (kk : ∀ z : va_W, post z → J K lW (ca + mc') (sl + ms') (u ++ z) lv (pc + 3) st) : J K lW ca sl (u ++ [o]) lv pc (.ref b :: st) :=
  j_callviNX (S := va_W) (S' := va_W) (wd := lW) (wd' := lW) (As := []) (fun z : va_W => u ++ z) u [] (fun z => by rw [List.append_nil]) C hM hd hm hR rfl hcat kk
theorem j_ctor (C : Cx K own cc nL fr lo mc ms) (u : va_W) {o : Nat × va_E} {y : MethodName} {cc' : ByteArray} {nL' fr' lo' mc' ms' idx b : Nat} {post : va_W → Prop} (hM : Cv (kL K) (kG K) y cc' nL' fr' lo' mc' ms' lW [.ref b] [o] post) (hd : decode cc pc = .ok (.invokespecial idx, 3)) (hm : jMI own idx y cc' nL' 0) (hR : fr' + 1 ≤ fr ∧ 8 + (nL' + 11) + lo' ≤ lo ∧ ca + mc' ≤ mc ∧ sl + ms' ≤ ms) (hcat : (st.map fun v => v.category).sum ≤ 8)
    (kk : ∀ z : va_W, post z → J K lW (ca + mc') (sl + ms') (u ++ z) lv (pc + 3) st) : J K lW ca sl (u ++ [o]) lv pc (.ref b :: st) :=
  j_callviX (S := va_W) (S' := va_W) (wd := lW) (wd' := lW) (As := []) (fun z : va_W => u ++ z) u [] (fun z => by rw [List.append_nil]) C hM hd hm hR rfl hcat kk
end

theorem jnw_RX9_9 : jNw RX9 9 1 5 [.int 0, .int 0, .int 0, .int 0, .int 0] := ⟨RX1, TX1, tyX1, rfl, uw_1, tyX1_ok, jcl_RX9_9, jin_RX1, jini_RX1, by decide +kernel⟩
theorem jnw_RX9_15 : jNw RX9 15 8 3 [.int 0, .int 0, .int 0] := ⟨RX8, TX8, tyX8, rfl, uw_8, tyX8_ok, jcl_RX9_15, jin_RX8, jini_RX8, by decide +kernel⟩
theorem jnw_RX9_22 : jNw RX9 22 7 3 [.null, .null, .int 0] := ⟨RX7, TX7, tyX7, rfl, uw_7, tyX7_ok, jcl_RX9_22, jin_RX7, jini_RX7, by decide +kernel⟩
theorem jnw_RX9_28 : jNw RX9 28 3 2 [.null, .int 0] := ⟨RX3, TX3, tyX3, rfl, uw_3, tyX3_ok, jcl_RX9_28, jin_RX3, jini_RX3, by decide +kernel⟩
theorem jnw_RX9_35 : jNw RX9 35 5 3 [.null, .int 0, .int 0] := ⟨RX5, TX5, tyX5, rfl, uw_5, tyX5_ok, jcl_RX9_35, jin_RX5, jini_RX5, by decide +kernel⟩
theorem jnw_RX9_41 : jNw RX9 41 2 5 [.null, .null, .int 0, .int 0, .int 0] := ⟨RX2, TX2, tyX2, rfl, uw_2, tyX2_ok, jcl_RX9_41, jin_RX2, jini_RX2, by decide +kernel⟩
theorem jnw_RX9_48 : jNw RX9 48 0 4 [.null, .null, .null, .null] := ⟨RX0, TX0, tyX0, rfl, uw_0, tyX0_ok, jcl_RX9_48, jin_RX0, jini_RX0, by decide +kernel⟩
theorem jnw_RX3_9 : jNw RX3 9 6 6 [.null, .int 0, .null, .null, .null, .int 0] := ⟨RX6, TX6, tyX6, rfl, uw_6, tyX6_ok, jcl_RX3_9, jin_RX6, jini_RX6, by decide +kernel⟩
theorem jnw_RX2_9 : jNw RX2 9 1 5 [.int 0, .int 0, .int 0, .int 0, .int 0] := ⟨RX1, TX1, tyX1, rfl, uw_1, tyX1_ok, jcl_RX2_9, jin_RX1, jini_RX1, by decide +kernel⟩
theorem jnw_RX2_17 : jNw RX2 17 8 3 [.int 0, .int 0, .int 0] := ⟨RX8, TX8, tyX8, rfl, uw_8, tyX8_ok, jcl_RX2_17, jin_RX8, jini_RX8, by decide +kernel⟩
theorem jnw_RX0_21 : jNw RX0 21 4 8 [.null, .int 0, .int 0, .int 0, .int 0, .int 0, .int 0, .int 0] := ⟨RX4, TX4, tyX4, rfl, uw_4, tyX4_ok, jcl_RX0_21, jin_RX4, jini_RX4, by decide +kernel⟩
theorem jnw_RL_7 : jNw RL 7 9 12 [.null, .int 0, .null, .null, .int 0, .int 0, .null, .null, .null, .null, .null, .null] := ⟨RX9, TX9, tyX9, rfl, uw_9, tyX9_ok, jcl_RL_7, jin_RX9, jini_RX9, by decide +kernel⟩
theorem jnw_RL_10 : jNw RL 10 10 37 [.int 0, .null, .null, .int 0, .int 0, .null, .int 0, .null, .null, .null, .int 0, .int 0, .int 0, .int 0, .int 0, .int 0, .int 0, .int 0, .int 0, .int 0, .int 0, .int 0, .long 0, .int 0, .int 0, .int 0, .null, .null, .null, .null, .null, .int 0, .int 0, .null, .null, .null, .null] := ⟨RX10, TX10, tyX10, rfl, uw_10, tyX10_ok, jcl_RL_10, jin_RX10, jini_RX10, by decide +kernel⟩
theorem jac_int : Cond.arrayClass (newarray.typeOf .int) ∈ wsL_law := wsL_in (List.mem_of_getElem? (i := 177) (by decide +kernel)) (by decide +kernel)
theorem jac_boolean : Cond.arrayClass (newarray.typeOf .boolean) ∈ wsL_law := wsL_in (List.mem_of_getElem? (i := 1022) (by decide +kernel)) (by decide +kernel)
