/-! THE LAW'S LOOP, ITS START AND ITS END -/
theorem rel_start {M : Nat → Nat → Int32} {x : mS} (h1 : in0 M) (h2 : in0M x) : Rel M x := by
  obtain ⟨m1, m2, m3, ⟨m4, m5, m6⟩, m7, ⟨m8, m9⟩, m10, m11⟩ := h1
  obtain ⟨x1, x2, x3, x4, x5, ⟨x6, x7, x8⟩, x9, x10, x11⟩ := h2
  have hT : tM (fun _ => rB2) (fun _ => 48) 0 = tRul := by
    show tdT (tcS rB2 48) (tnS rB2 48) = tRul
    rw [rB2_tc.1, rB2_tc.2]
  refine ⟨0, 1, 0, 0, fun _ => rB2, fun _ => 48, ⟨⟨by rw [m1]; rfl, by decide⟩, ⟨by rw [m2]; rfl, by decide, by decide⟩, ⟨by rw [m3]; rfl, by decide⟩, ⟨⟨by rw [m4]; decide, by rw [m4]; decide⟩, by rw [m5]; decide, by rw [m5]; decide⟩, fun j hj => ?_⟩, ⟨⟨by rw [x4]; rfl, by decide⟩, ⟨by rw [x1]; rfl, by decide, by decide⟩, ⟨by rw [x2]; rfl, by decide⟩, ?_, fun j hj => ?_, fun i hi => absurd hi (by omega)⟩, fun j hj => ?_, fun i hi => absurd hi (by omega), fun i hi => absurd hi (by omega), ⟨by rw [m7]; rfl, by rw [x3]; rfl, by decide, fun i hi => absurd hi (by omega)⟩, fun i hi => ⟨0, by decide, by rw [(m10 i hi).2]; rfl, Or.inl ⟨(m10 i hi).1, x11 i hi⟩⟩, 0, by decide, by rw [m9]; rfl, Or.inl ⟨m8, x5⟩⟩
  · obtain rfl : j = 0 := by omega
    show txR M 34 (tM (fun _ => rB2) (fun _ => 48) 0)
    rw [hT]; exact m11
  · show (0 ≤ x.1 4 0 ∧ x.1 4 0 ≤ 19) ∧ 0 ≤ x.1 4 1 ∧ x.1 4 1 ≤ 19
    rw [x6, x7]; decide
  · obtain rfl : j = 0 := by omega
    refine ⟨by decide, by rw [x9]; rfl, by decide, fun i hi => ⟨?_, rB2_b i hi⟩, ?_⟩
    · rw [Nat.mul_zero, Nat.zero_add]; exact x10 i hi
    · show flS (tcS rB2 48) (tnS rB2 48) = none
      rw [rB2_tc.1, rB2_tc.2]; exact rul0
  · rcases (show j = 0 ∨ j = 1 ∨ j = 2 by omega) with rfl | rfl | rfl
    · rw [m4, x6]
    · rw [m5, x7]
    · rw [m6, x8]
set_option maxHeartbeats 4000000 in
set_option maxRecDepth 100000 in
theorem lw_loop {KK : jK} (C : Cx KK yL_law.cls cL_law 4 2048 84000 600000 7302250) {bs L : Nat} {xs : Nat → Int32} (hX : va_X bs L xs (kS KK) (kS KK).heap) (hbl : bs < (kS KK).heap.size) (hbA : ¬ kF KK bs) (hL : L ≤ 3072) {a b : Nat → Nat} {ca sl : Nat} (hca : ca ≤ 600000) (hsl : sl ≤ 7302250) (hret : ∀ y lv, J KK (wL (kG KK) a b) ca sl y lv 1121 [.int 1]) : ∀ (f i : Nat) (M : Nat → Nat → Int32) (x : mS), L < i + 6 + f → i ≤ L → Rel M x → J KK (wL (kG KK) a b) ca sl (M, x) [(0, .ref bs), (1, .ref (a 0)), (2, .ref (b 0)), (3, .int (nI i))] 18 [] := by
  intro f
  induction f with
  | zero =>
    intro i M x hf hiL h
    refine j_iload_n C dL_law_18 rfl rfl ?_
    refine j_aload_n C dL_law_19 rfl rfl ?_
    refine j_slen C hX hbl hbA dL_law_20 ?_
    refine j_bipush (v := 6) C dL_law_21 rfl ?_
    refine j_isub C dL_law_23 ?_
    have e1 : (nI L).toInt = L := nI_toInt (by omega)
    have e2 : (nI i).toInt = i := nI_toInt (by omega)
    have e3 : (nI L - 6).toInt = (L : Int) - 6 := by
      rw [i32_sub (by rw [e1]; simp only [Int32.reduceToInt]; omega) (by rw [e1]; simp only [Int32.reduceToInt]; omega), e1]; rfl
    refine j_icmp_gt (tgt := 1120) C dL_law_24 (by decide) (fun c => ?_) (fun c => ?_)
    · exact j_iconst (v := 1) C dL_law_1120 rfl (hret _ _)
    · exact absurd (show nI L - 6 < nI i by rw [Int32.lt_iff_toInt_lt, e3, e2]; omega) c
  | succ f ih =>
    intro i M x hf hiL h
    refine j_iload_n C dL_law_18 rfl rfl ?_
    refine j_aload_n C dL_law_19 rfl rfl ?_
    refine j_slen C hX hbl hbA dL_law_20 ?_
    refine j_bipush (v := 6) C dL_law_21 rfl ?_
    refine j_isub C dL_law_23 ?_
    have e1 : (nI L).toInt = L := nI_toInt (by omega)
    have e2 : (nI i).toInt = i := nI_toInt (by omega)
    have e3 : (nI L - 6).toInt = (L : Int) - 6 := by
      rw [i32_sub (by rw [e1]; simp only [Int32.reduceToInt]; omega) (by rw [e1]; simp only [Int32.reduceToInt]; omega), e1]; rfl
    refine j_icmp_gt (tgt := 1120) C dL_law_24 (by decide) (fun c => ?_) (fun c => ?_)
    · exact j_iconst (v := 1) C dL_law_1120 rfl (hret _ _)
    rw [Int32.lt_iff_toInt_lt, e3, e2] at c
    have hi : i + 6 ≤ L := by omega
    have KE : ∀ M' x', Rel M' x' → J KK (wL (kG KK) a b) ca sl (M', x') [(0, .ref bs), (1, .ref (a 0)), (2, .ref (b 0)), (3, .int (nI i))] 1114 [] := fun M' x' h' => by
      refine j_iinc (v := nI (i + 6)) C dL_law_1114 rfl (nI_add i 6) (by decide) rfl ?_
      refine j_goto (tgt := 18) C dL_law_1117 (by decide) ?_
      exact j_lv (lv' := [(0, .ref bs), (1, .ref (a 0)), (2, .ref (b 0)), (3, .int (nI (i + 6)))]) rfl (ih (i + 6) M' x' (by omega) hi h')
    refine j_aload_n C dL_law_27 rfl rfl ?_
    refine j_iload_n C dL_law_28 rfl rfl ?_
    refine j_sld C hX hbl hbA i dL_law_29 rfl (by omega) (by omega) ?_
    refine j_bipush (v := 31) C dL_law_30 rfl ?_
    refine j_iand C dL_law_32 ?_
    obtain ⟨j, hj, ej⟩ := in_of (q := xs i &&& 31) (m := 32) (B := 32) an31 rfl
    rw [ej]
    match j, hj with
    | 0, _ => exact j_tableIn (tgt := 156) C dL_law_33 (by decide) (by decide) rfl (by decide) (l_set C hX hbl hbA hL hca hsl hi h KE)
    | 1, _ => exact j_tableIn (tgt := 199) C dL_law_33 (by decide) (by decide) rfl (by decide) (l_glove C hX hbl hbA hL hca hsl hi h KE)
    | 2, _ => exact j_tableIn (tgt := 242) C dL_law_33 (by decide) (by decide) rfl (by decide) (l_told C hX hbl hbA hL hca hsl hi h KE)
    | 3, _ => exact j_tableIn (tgt := 275) C dL_law_33 (by decide) (by decide) rfl (by decide) (l_feed C hX hbl hbA hL hca hsl hi h KE)
    | 4, _ => exact j_tableIn (tgt := 298) C dL_law_33 (by decide) (by decide) rfl (by decide) (l_text C hX hbl hbA hL hca hsl hi h KE)
    | 5, _ => exact j_tableIn (tgt := 311) C dL_law_33 (by decide) (by decide) rfl (by decide) (l_force C hX hbl hbA hL hca hsl hi h KE)
    | 6, _ => exact j_tableIn (tgt := 334) C dL_law_33 (by decide) (by decide) rfl (by decide) (l_day C hX hbl hbA hL hca hsl hi h KE)
    | 7, _ => exact j_tableIn (tgt := 377) C dL_law_33 (by decide) (by decide) rfl (by decide) (l_found C hX hbl hbA hL hca hsl hi h KE)
    | 8, _ => exact j_tableIn (tgt := 421) C dL_law_33 (by decide) (by decide) rfl (by decide) (l_parts C hX hbl hbA hL hca hsl hi h KE)
    | 9, _ => exact j_tableIn (tgt := 455) C dL_law_33 (by decide) (by decide) rfl (by decide) (l_waiting C hX hbl hbA hL hca hsl hi h KE)
    | 10, _ => exact j_tableIn (tgt := 489) C dL_law_33 (by decide) (by decide) rfl (by decide) (l_hang C hX hbl hbA hL hca hsl hi h KE)
    | 11, _ => exact j_tableIn (tgt := 523) C dL_law_33 (by decide) (by decide) rfl (by decide) (l_walk C hX hbl hbA hL hca hsl hi h KE)
    | 12, _ => exact j_tableIn (tgt := 557) C dL_law_33 (by decide) (by decide) rfl (by decide) (l_best C hX hbl hbA hL hca hsl hi h KE)
    | 13, _ => exact j_tableIn (tgt := 590) C dL_law_33 (by decide) (by decide) rfl (by decide) (l_first C hX hbl hbA hL hca hsl hi h KE)
    | 14, _ => exact j_tableIn (tgt := 624) C dL_law_33 (by decide) (by decide) rfl (by decide) (l_giveUp C hX hbl hbA hL hca hsl hi h KE)
    | 15, _ => exact j_tableIn (tgt := 657) C dL_law_33 (by decide) (by decide) rfl (by decide) (l_tells C hX hbl hbA hL hca hsl hi h KE)
    | 16, _ => exact j_tableIn (tgt := 700) C dL_law_33 (by decide) (by decide) rfl (by decide) (l_film C hX hbl hbA hL hca hsl hi h KE)
    | 17, _ => exact j_tableIn (tgt := 743) C dL_law_33 (by decide) (by decide) rfl (by decide) (l_lot C hX hbl hbA hL hca hsl hi h KE)
    | 18, _ => exact j_tableIn (tgt := 776) C dL_law_33 (by decide) (by decide) rfl (by decide) (l_chance C hX hbl hbA hL hca hsl hi h KE)
    | 19, _ => exact j_tableIn (tgt := 830) C dL_law_33 (by decide) (by decide) rfl (by decide) (l_image C hX hbl hbA hL hca hsl hi h KE)
    | 20, _ => exact j_tableIn (tgt := 843) C dL_law_33 (by decide) (by decide) rfl (by decide) (l_back C hX hbl hbA hL hca hsl hi h KE)
    | 21, _ => exact j_tableIn (tgt := 856) C dL_law_33 (by decide) (by decide) rfl (by decide) (l_count C hX hbl hbA hL hca hsl hi h KE)
    | 22, _ => exact j_tableIn (tgt := 879) C dL_law_33 (by decide) (by decide) rfl (by decide) (l_sheet C hX hbl hbA hL hca hsl hi h KE)
    | 23, _ => exact j_tableIn (tgt := 922) C dL_law_33 (by decide) (by decide) rfl (by decide) (l_cell C hX hbl hbA hL hca hsl hi h KE)
    | 24, _ => exact j_tableIn (tgt := 965) C dL_law_33 (by decide) (by decide) rfl (by decide) (l_copy C hX hbl hbA hL hca hsl hi h KE)
    | 25, _ => exact j_tableIn (tgt := 1028) C dL_law_33 (by decide) (by decide) rfl (by decide) (l_gloves C hX hbl hbA hL hca hsl hi h KE)
    | 26, _ => exact j_tableIn (tgt := 1081) C dL_law_33 (by decide) (by decide) rfl (by decide) (l_taken C hX hbl hbA hL hca hsl hi h KE)
    | j + 27, hj => exact j_tableOut (tgt := 1114) C dL_law_33 (Or.inr (by rw [nI_toInt (by omega)]; omega)) (by decide) (KE M x h)

/-! THE CLAIM OUT OF ONE WALK OF THE LAW'S BODY. Your part is whole_start (and what it stands on); all else here is the same for every law, but numbers. -/
def R_law : String := "OneGloveLaw"
def lw_P (b : Addr) (xs : List Int32) (args : Array Value) (s : State) : Prop := args = #[.ref b] ∧ s.IntsAt b xs ∧ xs.length ≤ 3072 ∧ (Jvm.Cond.and given_1 narrow_1).before args s = true
def lw_Q (_ : Array Value) (s : State) (o : Outcome) (t : State) : Prop := o = .returned (some (.int 1)) ∧ Framed s o t [] 600000 7302250
def lw_Z (below : List Frame) (a : Array Value) (s : State) : State → Prop := fun t => ∃ o, t.status = .running ∧ Ended t below o ∧ lw_Q a s o t
/-- the law's own end, with 1 on the stack, nothing written that was there before, its room as the claim has it -/
theorem lw_ret {p : Program} {l : Launch} {e : Env} {s : State} {m : MethodId} {below : List Frame} {meth : Method} {c : Code} {b : Nat} (hx : p.tables.exec = Jvm.exec) (hb : c.code = code) (hr : meth.sig.returnType = ret) (hlocks : meth.locks = false) {pc : Nat} {H : Heap} {ls : Array Slot} (hdg : decode code pc = .ok (.ireturn, 1)) : W p l e room_1 s m #[Value.ref b] below meth c H [] 600000 7302250 (lw_Z below #[Value.ref b] s) (F0 m pc ls [.int 1]) := by
  intro T hT X
  obtain ⟨fs, hret, hrun, hended, hW, hframe⟩ := X.leave (v := some (.int 1)) (hlocks := hlocks) (fun h => by rw [hr] at h; cases h)
  have hmeth' : T.vm.method? m = some meth := X.method'
  refine ⟨T.setFrames fs, ?_, .returned (some (.int 1)), hrun, hended, rfl, ⟨_, rfl⟩, hW, hframe⟩
  jvm_step X.here [X.here.top, hx, hb, hdg, hmeth', hr, ret, narrow_b1]
  (try refine ⟨rfl, ?_⟩); (try refine ⟨rfl, ?_⟩)
  first | (intro acts; rw [hret _ acts rfl rfl rfl]) | rw [hret _ _ rfl rfl rfl]
  exact Steps.refl _
/-- what holds at the law's entry: the machine, the code, the tables' words (any of lw_tbl by 'hts w (by decide +kernel)'), the script of L ints xs at the cell b, what the Statement gives of the start (any of its parts by flat_of_before) -/
def lw_At (p : Program) (s : State) (m : MethodId) (meth : Method) (c : Code) (b L : Nat) (xs : Nat → Int32) : Prop :=
  p.tables.exec = Jvm.exec ∧ c.code = code ∧ meth.sig.returnType = ret ∧ c.maxLocals = 4 ∧ s.vm.findClass R_law = some m.cls ∧ (∀ w ∈ lw_tbl, w.before #[Value.ref b] s = true) ∧ va_X b L xs s s.heap ∧ b < s.heap.size ∧ meth.locks = false ∧ (Jvm.Cond.and given_1 narrow_1).before #[Value.ref b] s = true
set_option maxHeartbeats 4000000 in
set_option maxRecDepth 100000 in
/-- YOUR PART: from the entry, for every script of at most 3072 ints, the law comes to its end with true ('hflags': the launch's flags, for a law that throws: no stack traces) -/
theorem whole_start {p : Program} {e : Env} {s : State} {m : MethodId} {below : List Frame} {meth : Method} {c : Code} (l : Launch) (hflags : l.flags = flags0) {b L : Nat} {xs : Nat → Int32} (hL : L ≤ 3072) (C0 : lw_At p s m meth c b L xs) : W p l e room_1 s m #[Value.ref b] below meth c s.heap [] 0 0 (lw_Z below #[Value.ref b] s) (entryFrame m ([Value.ref b] : List Value).toArray 4) := by
  obtain ⟨hx, hb, hr, hml, hown, hts, hX, hbl, hlocks, hgv⟩ := id C0
  obtain ⟨ev, hE⟩ := e_start (A := fun q : Nat => s.heap.size ≤ q) hgv hts (fun q h1 h2 => Nat.not_le.mpr h1 h2)
  obtain ⟨g, hg, hK⟩ := k_start hts ev
  obtain ⟨K, hKe⟩ : ∃ K : jK, K = ((p, l, e, room_1, s, m, #[Value.ref b], below, meth, c), g, (fun q : Nat => s.heap.size ≤ q), lw_Z below #[Value.ref b] s) := ⟨_, rfl⟩
  have C : Cx K yL_law.cls cL_law 4 2048 84000 600000 7302250 := by
    rw [hKe]
    exact ⟨hx, hb, hml, hown, fun w h => hts w (wsL_law_in w h), hK, fun _ h => h, hlocks, rfl, by
      show jE (gEv g) _ s s.heap
      rw [hg]; exact hE⟩
  have hX' : va_X b L xs (kS K) (kS K).heap := by rw [hKe]; exact hX
  have hbl' : b < (kS K).heap.size := by rw [hKe]; exact hbl
  have hbA : ¬ kF K b := by rw [hKe]; exact Nat.not_le.mpr hbl
  have hret : ∀ (a b' : Nat → Nat) y lv, J K (wL (kG K) a b') 600000 7302250 y lv 1121 [.int 1] := by
    rw [hKe]
    exact fun a b' y lv H locs ls hP hD hS h => va_forget hS.2.2 (lw_ret hx hb hr hlocks dL_law_1121)
  have h : J K lW 0 0 ([] : va_W) [(0, .ref b)] 0 [] := by
    refine j_new C jnw_RL_7 dL_law_0 (by decide) (by decide) (fun q0 => ?_)
    refine j_dup C dL_law_3 rfl ?_
    refine j_ctor C [] (c_X9_init _ _ q0) dL_law_4 jm_RL_9 ⟨by decide, by decide, by decide, by decide⟩ (Nat.le_of_ble_eq_true rfl) (fun z hz => ?_)
    obtain ⟨a, M, rfl, rfl, hM⟩ := hz
    refine j_astore_n (lv' := [(1, .ref (a 0)), (0, .ref b)]) C dL_law_7 rfl (by decide) rfl ?_
    refine j_new C jnw_RL_10 dL_law_8 (by decide) (by decide) (fun q1 => ?_)
    refine j_dup C dL_law_11 rfl ?_
    refine j_ctor C ([] ++ cW (kG K) a M) (c_X10_init _ _ q1) dL_law_12 jm_RL_12 ⟨by decide, by decide, by decide, by decide⟩ (Nat.le_of_ble_eq_true rfl) (fun z hz => ?_)
    obtain ⟨b', x, rfl, rfl, hx'⟩ := hz
    refine j_astore_n (lv' := [(2, .ref (b' 0)), (1, .ref (a 0)), (0, .ref b)]) C dL_law_15 rfl (by decide) rfl ?_
    refine j_iconst (v := 0) C dL_law_16 rfl ?_
    refine j_istore_n (lv' := [(3, .int 0), (2, .ref (b' 0)), (1, .ref (a 0)), (0, .ref b)]) C dL_law_17 rfl (by decide) rfl ?_
    refine j_conv (wd' := wL (kG K) a b') (M, x) (fun H h => h) (fun h => h) ?_
    refine j_widen (ca' := 600000) (sl' := 7302250) (by decide) (by decide) ?_
    refine j_lv (lv' := [(0, .ref b), (1, .ref (a 0)), (2, .ref (b' 0)), (3, .int (nI 0))]) rfl ?_
    exact lw_loop C hX' hbl' hbA hL (Nat.le_refl _) (Nat.le_refl _) (hret a b') L 0 M x (by omega) (Nat.zero_le _) (rel_start hM hx')
  rw [hKe] at h
  have hl := lv_entry ([.ref b]) (n := 4) (Nat.le_of_ble_eq_true rfl)
  rw [lg_entry_eq]
  generalize (lg_sl ([.ref b]) ++ List.replicate (4 - (lg_sl ([.ref b])).length) Slot.unset).toArray = ls at hl ⊢
  refine h s.heap [] ls (fun k q h => by simp at h) ⟨fun i j p q h => by simp at h, fun k q h => by simp at h⟩ va_S.rf ?_
  show lv_has ls c.maxLocals [(0, .ref b)]
  rw [hml]; exact hl
set_option maxHeartbeats 4000000 in
theorem lw_walk (l : Launch) (hflags : l.flags = flags0) (b : Addr) (xs : List Int32) : MetFree l x (headSpec (Jvm.Cond.code x code maxLocals ret :: tables_1) room_1) (lw_P b xs) (fun _ _ _ _ _ => True) lw_Q := by
  refine MetFree.of_bodyS (code := code) (maxLocals := maxLocals) (ret := ret) (by decide) ?_ ?_
  · intro args s m h hn
    obtain ⟨meth, c, h1, h2, h3, h4, h5, h6, -, -⟩ := Cond.code_spec hn (atoms_spec (ws := Jvm.Cond.code x code maxLocals ret :: tables_1) h _ List.mem_cons_self)
    exact ⟨meth, c, h1, h2, h3, h4, h5, h6⟩
  · intro p e s m args below meth c s₁ B hml0 hP _
    obtain ⟨rfl, hx, hbd, hgv⟩ := hP
    obtain ⟨scr, harrAt, hlist, hof, hsmall⟩ := hx
    obtain ⟨hcb, hkn, -, -⟩ := State.arrayAt?_spec harrAt
    have hown : s.vm.findClass R_law = some m.cls := findClass_of_methodNamed B.named
    have hts0 : ∀ c ∈ (Jvm.Cond.code x code maxLocals ret :: tables_1), c.before #[Value.ref b] s = true := atoms_spec (ws := Jvm.Cond.code x code maxLocals ret :: tables_1) B.pre
    have hts : ∀ w ∈ lw_tbl, w.before #[Value.ref b] s = true := k2_hts_sels lw_privs (fun w hw => hts0 w (List.mem_cons_of_mem _ hw)) lw_privs_ok
    have hml : c.maxLocals = 4 := B.maxLocals_eq (hts0 _ List.mem_cons_self)
    have X₀ : Stand p l e room_1 s m #[Value.ref b] below meth c s₁ [] 0 0 := Stand.of_body B
    have hh0 : s₁.heap = s.heap := by rw [B.state]; rfl
    have hsz : scr.slots.size = xs.length := by rw [← Array.length_toList, hlist, List.length_map]
    have hval : ∀ j : Nat, j < xs.length → scr.slots[j]? = some (.int (xs.getD j 0)) := fun j hj => by
      rw [← Array.getElem?_toList, hlist]
      simp [hj]
    have hbl : b < s.heap.size := (Array.getElem?_eq_some_iff.mp hcb).1
    have hX : va_X b xs.length (fun j => xs.getD j 0) s s.heap := ⟨scr, hcb, hof, hkn, hsz, hval⟩
    have K : W p l e room_1 s m #[Value.ref b] below meth c s₁.heap [] 0 0 (lw_Z below #[Value.ref b] s) (entryFrame m ([Value.ref b] : List Value).toArray 4) := by
      rw [hh0]
      exact whole_start l hflags hbd ⟨B.exec, B.bytes, B.returns, hml, hown, hts, hX, hbl, B.notSynchronized, hgv⟩
    obtain ⟨t, a1, o, b1, b2, b3⟩ := K s₁ rfl X₀
    exact ⟨t, o, a1, b1, b2, b3⟩
theorem lw_pre_spec {args : Array Value} {s : State} (h : (Jvm.Cond.and given_1 narrow_1).before args s = true) (hr : rest_1_c.before args s = true) : ∃ (b : Addr) (xs : List Int32), lw_P b xs args s := by
  have hs := flat_of_before _ h
  have hq := flat_of_before _ hr
  have hc : (Cond.count 1).before args s = true := hs _ (by decide +kernel)
  have harr : (Cond.arrayOf (.arg 0) .int).before args s = true := hs _ (by decide +kernel)
  have hle : (Cond.le (.length (.arg 0)) (.int 3072)).before args s = true := hs _ (by decide +kernel)
  have hlen : (Cond.isInt (.length (.arg 0))).before args s = true := hq _ (by decide +kernel)
  have hall : (Cond.all (.arg 0) (.isInt (.elem (.arg 0) (.index 0)))).before args s = true := hq _ (by decide +kernel)
  obtain ⟨b, xs, hb, hx⟩ := State.ints_of_pre rfl harr hlen hall
  have hsm : xs.length < 2 ^ 31 := hx.choose_spec.2.2.2
  have hev : (Term.length (.arg 0)).eval args s none [] s = some (.int xs.length.toInt32) := hx.length_eval hb
  have hv := Cond.le_ints hev (show (Term.int 3072).eval args s none [] s = some (.int 3072) from rfl)
  have hd : xs.length.toInt32 ≤ 3072 := by
    simpa [Cond.before, Cond.holds, hv] using hle
  have hN : xs.length ≤ 3072 := (Int32.ofNat_le_ofNat hsm (by decide)).mp (show Int32.ofNat xs.length ≤ Int32.ofNat 3072 from hd)
  exact ⟨b, xs, Cond.one_arg hc (show args[0]? = some (.ref b) from hb), hx, hN, h⟩
theorem lw_comes (l : Launch) (hflags : l.flags = flags0) : Comes l x (Jvm.Cond.code x code maxLocals ret :: tables_1) room_1 (fun tb e args s => Calls_1 tb e args s ∧ rest_1 tb e args s ∧ Pre_1 tb e args s)
    (fun _ _ args s o t => lw_Q args s o t) := by
  intro p e ha hc hk s m args below hf hfit hheap happ hpre
  obtain ⟨b, xs, hP⟩ := lw_pre_spec hpre.2.2 hpre.2.1
  obtain ⟨k, o, h1, h2, h3, hQ⟩ := lw_walk l hflags b xs p e ha hc hk s m args below hf ((Spec.applies_iff_loose hf).mp happ).1 hP trivial
  exact ⟨k, o, h1, h2, h3, hQ⟩
theorem lw_frame {s t : State} {o : Outcome} {args : Array Value} (h : Framed s o t [] 600000 7302250) :
    Framed s o t (fieldLocs frame_1_writes args s ++ arrayLocs frame_1_arrays args s ++ staticLocs frame_1_statics s) 600000 7302250 := h
theorem lw_limb (L : Cond) (hL : ∀ (args : Array Value) (s t : State), L.after args s (.returned (some (.int 1))) t = true) :
    ArmFor flags0 classFile x code maxLocals ret World_1 tables_1 room_1 Calls_1 rest_1 Pre_1
      (fun tb e a s o t => postC L tb e a s o t ∧ Framed s o t (fieldLocs frame_1_writes a s ++ arrayLocs frame_1_arrays a s ++ staticLocs frame_1_statics s) 600000 7302250) := by
  intro l hflags _ _ p e ha hc hk s m args below hf hfit hheap happ hpre
  obtain ⟨k, o, h1, h2, h3, rfl, hF⟩ := lw_comes l hflags p e ha hc hk s m args below hf hfit hheap happ hpre
  exact ⟨k, _, h1, h2, h3, hL args s _, lw_frame hF⟩
theorem i_vc : Claimed_1_1 ∧ Claimed_1_2 := ⟨lw_limb limb_1_1 (fun args s t => by simp [limb_1_1, Cond.after, Cond.holds, Cond.value]), lw_limb limb_1_2 (fun args s t => Cond.after_iff.mpr (by
  first | (rw [show limb_1_2 = Cond.eq .result (.int 1) from rfl, Cond.eq_ints (x := 1) (y := 1) rfl rfl]; simp; done) | (simp [limb_1_2, Cond.value, Term.eval]; done)))⟩

