theorem jsl_RJ0_38 : Cond.fieldLink RJ0 38 "java/lang/String" "COMPACT_STRINGS" "Z" ∈ wsL_law := wsL_in (List.mem_of_getElem? (i := 343) (by decide +kernel)) (by decide +kernel)
theorem jsl_RJ0_1053 : Cond.fieldLink RJ0 1053 "jdk/internal/util/Preconditions" "SIOOBE_FORMATTER" "Ljava/util/function/BiFunction;" ∈ wsL_law := wsL_in (List.mem_of_getElem? (i := 359) (by decide +kernel)) (by decide +kernel)
theorem jsl_RJ0_9 : Cond.fieldLink RJ0 9 "java/lang/String" "value" "[B" ∈ wsL_law := mw_89
theorem jsl_RJ0_15 : Cond.fieldLink RJ0 15 "java/lang/String" "coder" "B" ∈ wsL_law := mw_88

theorem j_callivR {S : Type} {K : jK} {wd : S → va_W} {ca sl : Nat} {lv : List (Nat × Value)} {pc : Nat} {st st0 : List Value} {own : String} {cc : ByteArray} {nL fr lo mc ms : Nat} {x : S} {y : MethodName} {cc' : ByteArray} {nL' fr' lo' idx : Nat} {ty : FieldType} {b : Nat} {As : List Value} {post : Int32 → S → Prop}
    (C : Cx K own cc nL fr lo mc ms) (hM : Ci (kL K) (kG K) y cc' nL' ty fr' lo' 0 0 wd (.ref b :: As) x post) (hd : decode cc pc = .ok (.invokevirtual idx, 3)) (hm : jMV own idx y cc' nL' (some ty) As.length) (hrec : ∀ (H : Heap) (locs : List Loc), va_S (kF K) (kS K).heap H locs → ∃ cell : Cell, H[b]? = some cell ∧ cell.vm.isStatics = false ∧ (kS K).vm.findClass y.cls = some cell.cls) (hR : fr' + 1 ≤ fr ∧ 8 + (nL' + 11) + lo' ≤ lo ∧ ca ≤ mc ∧ sl ≤ ms) (hst : As.reverse ++ .ref b :: st = st0) (hcat : (st.map fun v => v.category).sum ≤ 8)
    (kk : ∀ (r : Int32) (z : S), post r z → J K wd ca sl z lv (pc + 3) (.int r :: st)) : J K wd ca sl x lv pc st0 := by
  intro H locs ls hP hD hS h
  have hrc := hrec H locs hS
  have hP' : va_P (gD (kG K)) vwCl ([] ++ (wd x ++ [])) H := by rw [List.append_nil]; exact hP
  have hD' : va_D (kF K) ([] ++ (wd x ++ [])) := by rw [List.append_nil]; exact hD
  have hF := j_freeX hD' hS C.2.2.2.2.2.2.1
  have hRR := C.2.2.2.2.2.2.2.2.1
  have hR' : fr' + 1 ≤ (kR K).frames ∧ 8 + (nL' + 11) + lo' ≤ (kR K).locals := by rw [hRR]; exact ⟨hR.1, hR.2.1⟩
  have hf' : ca + 0 ≤ (kR K).cells ∧ sl + 0 ≤ (kR K).slots := by rw [hRR]; exact hR.2.2
  refine va_calli (va_runV (As := As) (rest := st) ⟨C.1, C.2.1, C.2.2.1, C.2.2.2.1, C.2.2.2.2.1⟩ (hM H.size) (jMV_cw hm C.2.2.2.2.1 hR') ⟨cPr_blind, hrc, j_pre C hP' hD' hS⟩ rfl rfl (h.1.trans C.2.2.1) hst.symm (lv_room hcat) hd hf') hS (fun q _ h => hF q h) hF (fun r z t H1 locs1 ht hvm hw hB hz1 hk1 hS1 => ?_)
  obtain ⟨hP1, hK1, hD1⟩ := hB
  rw [ht] at hP1
  obtain ⟨hP2, hD2⟩ := j_frame hP' hD' hk1 hF hP1 hD1
  rw [List.append_nil] at hP2 hD2
  exact kk r z hw H1 locs1 ls hP2 hD2 hS1 h
section
variable {S : Type} {K : jK} {wd : S → va_W} {ca sl : Nat} {x : S} {lv lv' : List (Nat × Value)} {pc : Nat} {st : List Value} {own : String} {cc : ByteArray} {nL fr lo mc ms : Nat}
theorem kx_E (C : Cx K own cc nL fr lo mc ms) : jE (gEv (kG K)) (kF K) (kS K) (kS K).heap := C.2.2.2.2.2.2.2.2.2
theorem j_compact (C : Cx K own cc nL fr lo mc ms) {idx : Nat} (hd : decode cc pc = .ok (.getstatic idx, 3)) (hw : Cond.fieldLink own idx "java/lang/String" "COMPACT_STRINGS" "Z" ∈ wsL_law) (kk : J K wd ca sl x lv (pc + 3) (.int 1 :: st)) : J K wd ca sl x lv pc st := fun H locs ls hP hD hS h => va_gets C.1 C.2.1 (kx_E C).2.2.1 hS C.2.2.2.1 (C.2.2.2.2.1 _ hw) (fun _ h9 => h9) hd (kk H locs ls hP hD hS h)
theorem j_sioobe (C : Cx K own cc nL fr lo mc ms) {idx : Nat} (hd : decode cc pc = .ok (.getstatic idx, 3)) (hw : Cond.fieldLink own idx "jdk/internal/util/Preconditions" "SIOOBE_FORMATTER" "Ljava/util/function/BiFunction;" ∈ wsL_law) (k1 : J K wd ca sl x lv (pc + 3) (.null :: st)) (k2 : ∀ t : Nat, J K wd ca sl x lv (pc + 3) (.ref t :: st)) : J K wd ca sl x lv pc st := fun H locs ls hP hD hS h => (kx_E C).2.2.2.1.elim (fun hZ => va_gets C.1 C.2.1 hZ hS C.2.2.2.1 (C.2.2.2.2.1 _ hw) (fun _ h9 => h9) hd (k1 H locs ls hP hD hS h)) (fun ⟨t, hZ⟩ => va_gets C.1 C.2.1 hZ hS C.2.2.2.1 (C.2.2.2.2.1 _ hw) (fun _ h9 => h9) hd (k2 t H locs ls hP hD hS h))
theorem j_sval (C : Cx K own cc nL fr lo mc ms) {idx i : Nat} (hi : i < 14) (hd : decode cc pc = .ok (.getfield idx, 3)) (hw : Cond.fieldLink own idx "java/lang/String" "value" "[B" ∈ wsL_law) (kk : J K wd ca sl x lv (pc + 3) (.ref ((gEv (kG K)).2.2 i) :: st)) : J K wd ca sl x lv pc (.ref ((gEv (kG K)).2.1 i) :: st) := fun H locs ls hP hD hS h => vk_getf C.1 C.2.1 ((kx_E C).2.2.2.2.1.1 i hi).2.2.1 hS C.2.2.2.1 (C.2.2.2.2.1 _ hw) (fun _ h9 => h9) hd (kk H locs ls hP hD hS h)
theorem j_scod (C : Cx K own cc nL fr lo mc ms) {idx i : Nat} (hi : i < 14) (hd : decode cc pc = .ok (.getfield idx, 3)) (hw : Cond.fieldLink own idx "java/lang/String" "coder" "B" ∈ wsL_law) (kk : J K wd ca sl x lv (pc + 3) (.int 0 :: st)) : J K wd ca sl x lv pc (.ref ((gEv (kG K)).2.1 i) :: st) := fun H locs ls hP hD hS h => vk_getf C.1 C.2.1 ((kx_E C).2.2.2.2.1.1 i hi).2.1 hS C.2.2.2.1 (C.2.2.2.2.1 _ hw) (fun _ h9 => h9) hd (kk H locs ls hP hD hS h)
theorem j_blen (C : Cx K own cc nL fr lo mc ms) {i : Nat} (hi : i < 14) (hd : decode cc pc = .ok (.arraylength, 1)) (kk : J K wd ca sl x lv (pc + 1) (.int (nI (sLen.getD i 0)) :: st)) : J K wd ca sl x lv pc (.ref ((gEv (kG K)).2.2 i) :: st) := fun H locs ls hP hD hS h => va_tlen C.1 C.2.1 ((kx_E C).2.2.2.2.1.1 i hi).2.2.2 hS rfl hd (kk H locs ls hP hD hS h)
theorem j_bald (C : Cx K own cc nL fr lo mc ms) {i k : Nat} (hi : i < 14) (hk : k < sLen.getD i 0) (hs : sLen.getD i 0 < 2147483648) (hd : decode cc pc = .ok (.baload, 1)) (kk : J K wd ca sl x lv (pc + 1) (.int ((sByt.getD i []).getD k 0) :: st)) : J K wd ca sl x lv pc (.int (nI k) :: .ref ((gEv (kG K)).2.2 i) :: st) := fun H locs ls hP hD hS h => va_tb C.1 C.2.1 ((kx_E C).2.2.2.2.1.1 i hi).2.2.2 hS (vp_in_nI hk hs) (by rw [nI_clamp (Nat.lt_trans hk hs)]) hd (kk H locs ls hP hD hS h)
theorem j_ishr (C : Cx K own cc nL fr lo mc ms) {a b : Int32} (hd : decode cc pc = .ok (.ishr, 1)) (k : J K wd ca sl x lv (pc + 1) (.int (a >>> (b &&& 31)) :: st)) : J K wd ca sl x lv pc (.int b :: .int a :: st) := fun H locs ls hP hD hS h => lv_ishr C.1 C.2.1 hd (k H locs ls hP hD hS h)
theorem j_i2c (C : Cx K own cc nL fr lo mc ms) {a : Int32} (hd : decode cc pc = .ok (.i2c, 1)) (k : J K wd ca sl x lv (pc + 1) (.int (a.toUInt32 % 65536).toInt32 :: st)) : J K wd ca sl x lv pc (.int a :: st) := fun H locs ls hP hD hS h => lv_i2c C.1 C.2.1 hd rfl (k H locs ls hP hD hS h)
theorem j_ldcS (C : Cx K own cc nL fr lo mc ms) {idx : Nat} (i : Nat) (hi : i < 14) (hd : decode cc pc = .ok (.ldc idx, 2)) (h1 : sOwn i = own) (h2 : sIdx i = idx) (kk : J K wd ca sl x lv (pc + 2) (.ref ((gEv (kG K)).2.1 i) :: st)) : J K wd ca sl x lv pc st := fun H locs ls hP hD hS h => va_ldcS C.1 C.2.1 C.2.2.2.1 (by have e := (kx_E C).2.2.2.2.2.1 i hi; rw [h1, h2] at e; exact e) hd (kk H locs ls hP hD hS h)
theorem j_srec (C : Cx K own cc nL fr lo mc ms) {i : Nat} (hi : i < 14) : ∀ (H : Heap) (locs : List Loc), va_S (kF K) (kS K).heap H locs → ∃ cell : Cell, H[(gEv (kG K)).2.1 i]? = some cell ∧ cell.vm.isStatics = false ∧ (kS K).vm.findClass "java/lang/String" = some cell.cls := fun _ _ hS => vk_recv (kx_E C).2.2.2.2.1 hi hS
end
theorem sb_all : ∀ i, i < 14 → (sLen.getD i 0 = (sByt.getD i []).length ∧ sLen.getD i 0 < 200 ∧ ∀ k, k < sLen.getD i 0 → (((sByt.getD i []).getD k 0 &&& 255).toUInt32 % 65536).toInt32 = (sByt.getD i []).getD k 0 ∧ narrow .char (.int ((sByt.getD i []).getD k 0)) = .int ((sByt.getD i []).getD k 0)) := by decide +kernel

set_option maxHeartbeats 4000000 in
set_option maxRecDepth 100000 in
theorem c_J0_coder_7d493 (l : Launch) (g : jG) {S : Type} (wd : S → va_W) (x : S) (i : Nat) (hi : i < 14)  : Ci l g yJ0_coder_7d493 cJ0_coder_7d493 1 .byte 0 0 0 0 wd [.ref ((gEv g).2.1 i)] x (fun r z => r = 0 ∧ z = x) := by
  refine mk_i (by decide +kernel) rfl (fun KK hKl hKg C hin hret => ?_)
  subst hKl; subst hKg
  refine j_lv (lv' := [(0, _)]) rfl ?_
  refine j_compact C dJ0_coder_7d493_0 jsl_RJ0_38 ?_
  refine j_if_eq (tgt := 13) C dJ0_coder_7d493_3 (by decide) (fun c => absurd c (by decide)) (fun _ => ?_)
  refine j_aload_n C dJ0_coder_7d493_6 rfl rfl ?_
  refine j_scod C hi dJ0_coder_7d493_7 jsl_RJ0_15 ?_
  refine j_goto (tgt := 14) C dJ0_coder_7d493_10 (by decide) ?_
  refine hret _ _ _ _ dJ0_coder_7d493_14 rfl ?_
  exact ⟨rfl, rfl⟩
set_option maxHeartbeats 4000000 in
set_option maxRecDepth 100000 in
theorem c_J0_isLatin1_aae02 (l : Launch) (g : jG) {S : Type} (wd : S → va_W) (x : S) (i : Nat) (hi : i < 14)  : Ci l g yJ0_isLatin1_aae02 cJ0_isLatin1_aae02 1 .boolean 0 0 0 0 wd [.ref ((gEv g).2.1 i)] x (fun r z => r = 1 ∧ z = x) := by
  refine mk_i (by decide +kernel) rfl (fun KK hKl hKg C hin hret => ?_)
  subst hKl; subst hKg
  refine j_lv (lv' := [(0, _)]) rfl ?_
  refine j_compact C dJ0_isLatin1_aae02_0 jsl_RJ0_38 ?_
  refine j_if_eq (tgt := 17) C dJ0_isLatin1_aae02_3 (by decide) (fun c => absurd c (by decide)) (fun _ => ?_)
  refine j_aload_n C dJ0_isLatin1_aae02_6 rfl rfl ?_
  refine j_scod C hi dJ0_isLatin1_aae02_7 jsl_RJ0_15 ?_
  refine j_if_ne (tgt := 17) C dJ0_isLatin1_aae02_10 (by decide) (fun c => absurd (by decide) c) (fun _ => ?_)
  refine j_iconst (v := 1) C dJ0_isLatin1_aae02_13 rfl ?_
  refine j_goto (tgt := 18) C dJ0_isLatin1_aae02_14 (by decide) ?_
  refine hret _ _ _ _ dJ0_isLatin1_aae02_18 rfl ?_
  exact ⟨rfl, rfl⟩
set_option maxHeartbeats 4000000 in
set_option maxRecDepth 100000 in
theorem c_J0_length_8abf5 (l : Launch) (g : jG) {S : Type} (wd : S → va_W) (x : S) (i : Nat) (hi : i < 14)  : Ci l g yJ0_length_8abf5 cJ0_length_8abf5 1 .int 1 20 0 0 wd [.ref ((gEv g).2.1 i)] x (fun r z => r = nI (sLen.getD i 0) ∧ z = x) := by
  refine mk_i (by decide +kernel) rfl (fun KK hKl hKg C hin hret => ?_)
  subst hKl; subst hKg
  refine j_lv (lv' := [(0, _)]) rfl ?_
  refine j_aload_n C dJ0_length_8abf5_0 rfl rfl ?_
  refine j_sval C hi dJ0_length_8abf5_1 jsl_RJ0_9 ?_
  refine j_blen C hi dJ0_length_8abf5_4 ?_
  refine j_aload_n C dJ0_length_8abf5_5 rfl rfl ?_
  refine j_callivR C (c_J0_coder_7d493 _ _ _ _ i hi ) dJ0_length_8abf5_6 jm_RJ0_335 (j_srec C hi) ⟨by decide, by decide, by decide, by decide⟩ rfl (Nat.le_of_ble_eq_true rfl) (fun r z hz => ?_)
  obtain ⟨hr, hz⟩ := hz; have hr := hr.symm; have hz := hz.symm; subst hr; subst hz
  refine j_ishr C dJ0_length_8abf5_9 ?_
  refine hret _ _ _ _ dJ0_length_8abf5_10 rfl ?_
  exact ⟨sc_shr0 (by have := (sb_all i hi).2.1; omega), rfl⟩
set_option maxHeartbeats 4000000 in
set_option maxRecDepth 100000 in
theorem c_J3_checkIndex_8e157N (l : Launch) (g : jG) {S : Type} (wd : S → va_W) (x : S) (p : Int32) (n : Int32) (v : Nat) (h : 0 ≤ p ∧ p < n) : Ci l g yJ3_checkIndex_8e157 cJ3_checkIndex_8e157 3 .int 0 0 0 0 wd [.int p, .int n, .null] x (fun r z => r = p ∧ z = x) := by
  refine mk_i (by decide +kernel) rfl (fun KK hKl hKg C hin hret => ?_)
  subst hKl; subst hKg
  refine j_lv (lv' := [(0, _), (1, _), (2, _)]) rfl ?_
  refine j_iload_n C dJ3_checkIndex_8e157_0 rfl rfl ?_
  refine j_if_lt (tgt := 9) C dJ3_checkIndex_8e157_1 (by decide) (fun c_1 => ?_) (fun c_1 => ?_)
  · skip
    exact absurd c_1 (by have := h; simp only [Int32.lt_iff_toInt_lt, Int32.le_iff_toInt_le, ← Int32.toInt_inj, Int32.reduceToInt] at *; omega)
  · skip
    refine j_iload_n C dJ3_checkIndex_8e157_4 rfl rfl ?_
    refine j_iload_n C dJ3_checkIndex_8e157_5 rfl rfl ?_
    refine j_icmp_lt (tgt := 16) C dJ3_checkIndex_8e157_6 (by decide) (fun c_2 => ?_) (fun c_2 => ?_)
    · skip
      refine j_iload_n C dJ3_checkIndex_8e157_16 rfl rfl ?_
      refine hret _ _ _ _ dJ3_checkIndex_8e157_17 rfl ?_
      exact ⟨rfl, rfl⟩
    · skip
      exact absurd h.2 c_2
set_option maxHeartbeats 4000000 in
set_option maxRecDepth 100000 in
theorem c_J3_checkIndex_8e157R (l : Launch) (g : jG) {S : Type} (wd : S → va_W) (x : S) (p : Int32) (n : Int32) (v : Nat) (h : 0 ≤ p ∧ p < n) : Ci l g yJ3_checkIndex_8e157 cJ3_checkIndex_8e157 3 .int 0 0 0 0 wd [.int p, .int n, .ref v] x (fun r z => r = p ∧ z = x) := by
  refine mk_i (by decide +kernel) rfl (fun KK hKl hKg C hin hret => ?_)
  subst hKl; subst hKg
  refine j_lv (lv' := [(0, _), (1, _), (2, _)]) rfl ?_
  refine j_iload_n C dJ3_checkIndex_8e157_0 rfl rfl ?_
  refine j_if_lt (tgt := 9) C dJ3_checkIndex_8e157_1 (by decide) (fun c_1 => ?_) (fun c_1 => ?_)
  · skip
    exact absurd c_1 (by have := h; simp only [Int32.lt_iff_toInt_lt, Int32.le_iff_toInt_le, ← Int32.toInt_inj, Int32.reduceToInt] at *; omega)
  · skip
    refine j_iload_n C dJ3_checkIndex_8e157_4 rfl rfl ?_
    refine j_iload_n C dJ3_checkIndex_8e157_5 rfl rfl ?_
    refine j_icmp_lt (tgt := 16) C dJ3_checkIndex_8e157_6 (by decide) (fun c_2 => ?_) (fun c_2 => ?_)
    · skip
      refine j_iload_n C dJ3_checkIndex_8e157_16 rfl rfl ?_
      refine hret _ _ _ _ dJ3_checkIndex_8e157_17 rfl ?_
      exact ⟨rfl, rfl⟩
    · skip
      exact absurd h.2 c_2
set_option maxHeartbeats 4000000 in
set_option maxRecDepth 100000 in
theorem c_J0_checkIndex_df160 (l : Launch) (g : jG) {S : Type} (wd : S → va_W) (x : S) (p : Int32) (n : Int32) (h : 0 ≤ p ∧ p < n) : Cv l g yJ0_checkIndex_df160 cJ0_checkIndex_df160 2 1 22 0 0 wd [.int p, .int n] x (fun z => z = x) := by
  refine mk_v (by decide +kernel) rfl (fun KK hKl hKg C hin hret => ?_)
  subst hKl; subst hKg
  refine j_lv (lv' := [(0, _), (1, _)]) rfl ?_
  refine j_iload_n C dJ0_checkIndex_df160_0 rfl rfl ?_
  refine j_iload_n C dJ0_checkIndex_df160_1 rfl rfl ?_
  refine j_sioobe C dJ0_checkIndex_df160_2 jsl_RJ0_1053 ?_ (fun t9 => ?_)
  · skip
    refine j_callis C (c_J3_checkIndex_8e157N _ _ _ _ _ _ 0 h) dJ0_checkIndex_df160_5 jm_RJ0_1059 ⟨by decide, by decide, by decide, by decide⟩ rfl (Nat.le_of_ble_eq_true rfl) (fun r z hz => ?_)
    obtain ⟨hr, hz⟩ := hz; have hr := hr.symm; have hz := hz.symm; subst hr; subst hz
    refine j_pop C dJ0_checkIndex_df160_8 rfl ?_
    refine hret _ _ _ dJ0_checkIndex_df160_9 ?_
    exact rfl
  · skip
    refine j_callis C (c_J3_checkIndex_8e157R _ _ _ _ _ _ t9 h) dJ0_checkIndex_df160_5 jm_RJ0_1059 ⟨by decide, by decide, by decide, by decide⟩ rfl (Nat.le_of_ble_eq_true rfl) (fun r z hz => ?_)
    obtain ⟨hr, hz⟩ := hz; have hr := hr.symm; have hz := hz.symm; subst hr; subst hz
    refine j_pop C dJ0_checkIndex_df160_8 rfl ?_
    refine hret _ _ _ dJ0_checkIndex_df160_9 ?_
    exact rfl
set_option maxHeartbeats 4000000 in
set_option maxRecDepth 100000 in
theorem c_J1_charAt_3b067 (l : Launch) (g : jG) {S : Type} (wd : S → va_W) (x : S) (i : Nat) (hi : i < 14) (p : Int32) (k : Nat) (hp : p = nI k) (hk : k < sLen.getD i 0) : Ci l g yJ1_charAt_3b067 cJ1_charAt_3b067 2 .char 2 43 0 0 wd [.ref ((gEv g).2.2 i), .int p] x (fun r z => r = (sByt.getD i []).getD k 0 ∧ z = x) := by
  refine mk_i (by decide +kernel) rfl (fun KK hKl hKg C hin hret => ?_)
  subst hKl; subst hKg
  refine j_lv (lv' := [(0, _), (1, _)]) rfl ?_
  subst hp; have hs := (sb_all i hi).2.1; have hc := (sb_all i hi).2.2 k hk
  refine j_iload_n C dJ1_charAt_3b067_0 rfl rfl ?_
  refine j_aload_n C dJ1_charAt_3b067_1 rfl rfl ?_
  refine j_blen C hi dJ1_charAt_3b067_2 ?_
  refine j_callvs C (c_J0_checkIndex_df160 _ _ _ _ _ _ ⟨nI_pos' (by omega), nI_lt hk (by omega)⟩) dJ1_charAt_3b067_3 jm_RJ1_9 ⟨by decide, by decide, by decide, by decide⟩ rfl (Nat.le_of_ble_eq_true rfl) (fun z_3 hz_3 => ?_)
  have hz_3 := hz_3.symm; subst hz_3
  refine j_aload_n C dJ1_charAt_3b067_6 rfl rfl ?_
  refine j_iload_n C dJ1_charAt_3b067_7 rfl rfl ?_
  refine j_bald C hi hk (by omega) dJ1_charAt_3b067_8 ?_
  refine j_sipush (v := 255) C dJ1_charAt_3b067_9 rfl ?_
  refine j_iand C dJ1_charAt_3b067_12 ?_
  refine j_i2c C dJ1_charAt_3b067_13 ?_
  refine j_top (vint hc.1) ?_
  refine hret _ _ _ _ dJ1_charAt_3b067_14 hc.2 ?_
  exact ⟨rfl, rfl⟩
set_option maxHeartbeats 4000000 in
set_option maxRecDepth 100000 in
theorem c_J0_charAt_5068e (l : Launch) (g : jG) {S : Type} (wd : S → va_W) (x : S) (i : Nat) (hi : i < 14) (p : Int32) (k : Nat) (hp : p = nI k) (hk : k < sLen.getD i 0) : Ci l g yJ0_charAt_5068e cJ0_charAt_5068e 2 .char 3 64 0 0 wd [.ref ((gEv g).2.1 i), .int p] x (fun r z => r = (sByt.getD i []).getD k 0 ∧ z = x) := by
  refine mk_i (by decide +kernel) rfl (fun KK hKl hKg C hin hret => ?_)
  subst hKl; subst hKg
  refine j_lv (lv' := [(0, _), (1, _)]) rfl ?_
  have hc := (sb_all i hi).2.2 k hk
  refine j_aload_n C dJ0_charAt_5068e_0 rfl rfl ?_
  refine j_callivR C (c_J0_isLatin1_aae02 _ _ _ _ i hi ) dJ0_charAt_5068e_1 jm_RJ0_492 (j_srec C hi) ⟨by decide, by decide, by decide, by decide⟩ rfl (Nat.le_of_ble_eq_true rfl) (fun r z hz => ?_)
  obtain ⟨hr, hz⟩ := hz; have hr := hr.symm; have hz := hz.symm; subst hr; subst hz
  refine j_if_eq (tgt := 16) C dJ0_charAt_5068e_4 (by decide) (fun c => absurd c (by decide)) (fun _ => ?_)
  refine j_aload_n C dJ0_charAt_5068e_7 rfl rfl ?_
  refine j_sval C hi dJ0_charAt_5068e_8 jsl_RJ0_9 ?_
  refine j_iload_n C dJ0_charAt_5068e_11 rfl rfl ?_
  refine j_callis C (c_J1_charAt_3b067 _ _ _ _ i hi _ k hp hk) dJ0_charAt_5068e_12 jm_RJ0_495 ⟨by decide, by decide, by decide, by decide⟩ rfl (Nat.le_of_ble_eq_true rfl) (fun r z hz => ?_)
  obtain ⟨hr, hz⟩ := hz; have hr := hr.symm; have hz := hz.symm; subst hr; subst hz
  refine hret _ _ _ _ dJ0_charAt_5068e_15 hc.2 ?_
  exact ⟨rfl, rfl⟩
