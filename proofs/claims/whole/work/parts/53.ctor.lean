set_option maxHeartbeats 4000000 in
set_option maxRecDepth 100000 in
theorem c_X1_init (l : Launch) (g : jG) (h : Nat) : Cv l g yX1_init cX1_init 1 1 12 0 0 lW [.ref h] [(h, .inr (1, [.int 0, .int 0, .int 0, .int 0, .int 0]))] (fun z => z = [(h, .inr (1, [.int 0, .int 0, .int 0, .int 0, .int 0]))]) := by
  refine mk_v (by decide +kernel) rfl (fun KK hKl hKg C hin hret => ?_)
  subst hKl; subst hKg
  refine j_lv (lv' := [(0, _)]) rfl ?_
  refine j_aload_n C dX1_init_0 rfl rfl ?_
  refine j_objI C dX1_init_1 jo_RX1_3 (by decide) (Nat.le_of_ble_eq_true rfl) ?_
  refine j_widen (ca' := 0) (sl' := 0) (by decide) (by decide) ?_
  exact hret _ _ _ dX1_init_4 rfl
set_option maxHeartbeats 4000000 in
set_option maxRecDepth 100000 in
theorem c_X8_init (l : Launch) (g : jG) (h : Nat) : Cv l g yX8_init cX8_init 1 1 12 0 0 lW [.ref h] [(h, .inr (8, [.int 0, .int 0, .int 0]))] (fun z => z = [(h, .inr (8, [.int 0, .int 0, .int 0]))]) := by
  refine mk_v (by decide +kernel) rfl (fun KK hKl hKg C hin hret => ?_)
  subst hKl; subst hKg
  refine j_lv (lv' := [(0, _)]) rfl ?_
  refine j_aload_n C dX8_init_0 rfl rfl ?_
  refine j_objI C dX8_init_1 jo_RX8_1 (by decide) (Nat.le_of_ble_eq_true rfl) ?_
  refine j_widen (ca' := 0) (sl' := 0) (by decide) (by decide) ?_
  exact hret _ _ _ dX8_init_4 rfl
set_option maxHeartbeats 4000000 in
set_option maxRecDepth 100000 in
theorem c_X7_init (l : Launch) (g : jG) (h : Nat) : Cv l g yX7_init cX7_init 1 1 12 2 163 lW [.ref h] [(h, .inr (7, [.null, .null, .int 0]))] (fun z => ∃ q1 q2 : Nat, z = [(h, .inr (7, [.ref q1, .ref q2, .int 0])), (q1, .inl (gI g, 160, .inl (fun _ => 0))), (q2, .inl (gI g, 3, .inl (fun _ => 0)))]) := by
  refine mk_v (by decide +kernel) rfl (fun KK hKl hKg C hin hret => ?_)
  subst hKl; subst hKg
  refine j_lv (lv' := [(0, _)]) rfl ?_
  refine j_aload_n C dX7_init_0 rfl rfl ?_
  refine j_objI C dX7_init_1 jo_RX7_3 (by decide) (Nat.le_of_ble_eq_true rfl) ?_
  refine j_aload_n C dX7_init_4 rfl rfl ?_
  refine j_sipush (v := 160) C dX7_init_5 rfl ?_
  refine j_newI (N := 160) C dX7_init_8 jac_int (by decide) rfl (by decide) (by decide) (by decide) (fun q1 => ?_)
  refine j_st (y := [(h, .inr (7, [.null, .null, .int 0])), (q1, .inl (gI (kG KK), 160, .inl (fun _ => 0)))]) rfl ?_
  refine j_putF (k := 0) (y := [(h, .inr (7, [.ref q1, .null, .int 0])), (q1, .inl (gI (kG KK), 160, .inl (fun _ => 0)))]) C dX7_init_10 jp_RX7_9 (hin rfl) rfl (Nat.le_of_ble_eq_true rfl) rfl rfl ⟨_, rfl, rfl⟩ rfl ?_
  refine j_aload_n C dX7_init_13 rfl rfl ?_
  refine j_iconst (v := 3) C dX7_init_14 rfl ?_
  refine j_newI (N := 3) C dX7_init_15 jac_int (by decide) rfl (by decide) (by decide) (by decide) (fun q2 => ?_)
  refine j_st (y := [(h, .inr (7, [.ref q1, .null, .int 0])), (q1, .inl (gI (kG KK), 160, .inl (fun _ => 0))), (q2, .inl (gI (kG KK), 3, .inl (fun _ => 0)))]) rfl ?_
  refine j_putF (k := 0) (y := [(h, .inr (7, [.ref q1, .ref q2, .int 0])), (q1, .inl (gI (kG KK), 160, .inl (fun _ => 0))), (q2, .inl (gI (kG KK), 3, .inl (fun _ => 0)))]) C dX7_init_17 jp_RX7_15 (hin rfl) rfl (Nat.le_of_ble_eq_true rfl) rfl rfl ⟨_, rfl, rfl⟩ rfl ?_
  refine j_widen (ca' := 2) (sl' := 163) (by decide) (by decide) ?_
  exact hret _ _ _ dX7_init_20 ⟨q1, q2, rfl⟩
set_option maxHeartbeats 4000000 in
set_option maxRecDepth 100000 in
theorem c_X5_init (l : Launch) (g : jG) (h : Nat) : Cv l g yX5_init cX5_init 1 1 12 1 40 lW [.ref h] [(h, .inr (5, [.null, .int 0, .int 0]))] (fun z => ∃ q1 : Nat, z = [(h, .inr (5, [.ref q1, .int (-1), .int 0])), (q1, .inl (gI g, 40, .inl (fun _ => 0)))]) := by
  refine mk_v (by decide +kernel) rfl (fun KK hKl hKg C hin hret => ?_)
  subst hKl; subst hKg
  refine j_lv (lv' := [(0, _)]) rfl ?_
  refine j_aload_n C dX5_init_0 rfl rfl ?_
  refine j_objI C dX5_init_1 jo_RX5_3 (by decide) (Nat.le_of_ble_eq_true rfl) ?_
  refine j_aload_n C dX5_init_4 rfl rfl ?_
  refine j_bipush (v := 40) C dX5_init_5 rfl ?_
  refine j_newI (N := 40) C dX5_init_7 jac_int (by decide) rfl (by decide) (by decide) (by decide) (fun q1 => ?_)
  refine j_st (y := [(h, .inr (5, [.null, .int 0, .int 0])), (q1, .inl (gI (kG KK), 40, .inl (fun _ => 0)))]) rfl ?_
  refine j_putF (k := 0) (y := [(h, .inr (5, [.ref q1, .int 0, .int 0])), (q1, .inl (gI (kG KK), 40, .inl (fun _ => 0)))]) C dX5_init_9 jp_RX5_9 (hin rfl) rfl (Nat.le_of_ble_eq_true rfl) rfl rfl ⟨_, rfl, rfl⟩ rfl ?_
  refine j_aload_n C dX5_init_12 rfl rfl ?_
  refine j_iconst (v := -1) C dX5_init_13 rfl ?_
  refine j_put (k := 0) (y := [(h, .inr (5, [.ref q1, .int (-1), .int 0])), (q1, .inl (gI (kG KK), 40, .inl (fun _ => 0)))]) C dX5_init_14 jp_RX5_15 rfl (Nat.le_of_ble_eq_true rfl) rfl rfl rfl ?_
  refine j_widen (ca' := 1) (sl' := 40) (by decide) (by decide) ?_
  exact hret _ _ _ dX5_init_17 ⟨q1, rfl⟩
set_option maxHeartbeats 4000000 in
set_option maxRecDepth 100000 in
theorem c_X6_init (l : Launch) (g : jG) (h : Nat) : Cv l g yX6_init cX6_init 1 1 12 4 643 lW [.ref h] [(h, .inr (6, [.null, .int 0, .null, .null, .null, .int 0]))] (fun z => ∃ q1 q2 q3 q4 : Nat, z = [(h, .inr (6, [.ref q1, .int 0, .ref q2, .ref q3, .ref q4, .int 0])), (q1, .inl (gI g, 160, .inl (fun _ => 0))), (q2, .inl (gI g, 161, .inl (fun _ => 0))), (q3, .inl (gI g, 161, .inl (fun _ => 0))), (q4, .inl (gI g, 161, .inl (fun _ => 0)))]) := by
  refine mk_v (by decide +kernel) rfl (fun KK hKl hKg C hin hret => ?_)
  subst hKl; subst hKg
  refine j_lv (lv' := [(0, _)]) rfl ?_
  refine j_aload_n C dX6_init_0 rfl rfl ?_
  refine j_objI C dX6_init_1 jo_RX6_3 (by decide) (Nat.le_of_ble_eq_true rfl) ?_
  refine j_aload_n C dX6_init_4 rfl rfl ?_
  refine j_sipush (v := 160) C dX6_init_5 rfl ?_
  refine j_newI (N := 160) C dX6_init_8 jac_int (by decide) rfl (by decide) (by decide) (by decide) (fun q1 => ?_)
  refine j_st (y := [(h, .inr (6, [.null, .int 0, .null, .null, .null, .int 0])), (q1, .inl (gI (kG KK), 160, .inl (fun _ => 0)))]) rfl ?_
  refine j_putF (k := 0) (y := [(h, .inr (6, [.ref q1, .int 0, .null, .null, .null, .int 0])), (q1, .inl (gI (kG KK), 160, .inl (fun _ => 0)))]) C dX6_init_10 jp_RX6_9 (hin rfl) rfl (Nat.le_of_ble_eq_true rfl) rfl rfl ⟨_, rfl, rfl⟩ rfl ?_
  refine j_aload_n C dX6_init_13 rfl rfl ?_
  refine j_sipush (v := 161) C dX6_init_14 rfl ?_
  refine j_newI (N := 161) C dX6_init_17 jac_int (by decide) rfl (by decide) (by decide) (by decide) (fun q2 => ?_)
  refine j_st (y := [(h, .inr (6, [.ref q1, .int 0, .null, .null, .null, .int 0])), (q1, .inl (gI (kG KK), 160, .inl (fun _ => 0))), (q2, .inl (gI (kG KK), 161, .inl (fun _ => 0)))]) rfl ?_
  refine j_putF (k := 0) (y := [(h, .inr (6, [.ref q1, .int 0, .ref q2, .null, .null, .int 0])), (q1, .inl (gI (kG KK), 160, .inl (fun _ => 0))), (q2, .inl (gI (kG KK), 161, .inl (fun _ => 0)))]) C dX6_init_19 jp_RX6_15 (hin rfl) rfl (Nat.le_of_ble_eq_true rfl) rfl rfl ⟨_, rfl, rfl⟩ rfl ?_
  refine j_aload_n C dX6_init_22 rfl rfl ?_
  refine j_sipush (v := 161) C dX6_init_23 rfl ?_
  refine j_newI (N := 161) C dX6_init_26 jac_int (by decide) rfl (by decide) (by decide) (by decide) (fun q3 => ?_)
  refine j_st (y := [(h, .inr (6, [.ref q1, .int 0, .ref q2, .null, .null, .int 0])), (q1, .inl (gI (kG KK), 160, .inl (fun _ => 0))), (q2, .inl (gI (kG KK), 161, .inl (fun _ => 0))), (q3, .inl (gI (kG KK), 161, .inl (fun _ => 0)))]) rfl ?_
  refine j_putF (k := 0) (y := [(h, .inr (6, [.ref q1, .int 0, .ref q2, .ref q3, .null, .int 0])), (q1, .inl (gI (kG KK), 160, .inl (fun _ => 0))), (q2, .inl (gI (kG KK), 161, .inl (fun _ => 0))), (q3, .inl (gI (kG KK), 161, .inl (fun _ => 0)))]) C dX6_init_28 jp_RX6_18 (hin rfl) rfl (Nat.le_of_ble_eq_true rfl) rfl rfl ⟨_, rfl, rfl⟩ rfl ?_
  refine j_aload_n C dX6_init_31 rfl rfl ?_
  refine j_sipush (v := 161) C dX6_init_32 rfl ?_
  refine j_newI (N := 161) C dX6_init_35 jac_int (by decide) rfl (by decide) (by decide) (by decide) (fun q4 => ?_)
  refine j_st (y := [(h, .inr (6, [.ref q1, .int 0, .ref q2, .ref q3, .null, .int 0])), (q1, .inl (gI (kG KK), 160, .inl (fun _ => 0))), (q2, .inl (gI (kG KK), 161, .inl (fun _ => 0))), (q3, .inl (gI (kG KK), 161, .inl (fun _ => 0))), (q4, .inl (gI (kG KK), 161, .inl (fun _ => 0)))]) rfl ?_
  refine j_putF (k := 0) (y := [(h, .inr (6, [.ref q1, .int 0, .ref q2, .ref q3, .ref q4, .int 0])), (q1, .inl (gI (kG KK), 160, .inl (fun _ => 0))), (q2, .inl (gI (kG KK), 161, .inl (fun _ => 0))), (q3, .inl (gI (kG KK), 161, .inl (fun _ => 0))), (q4, .inl (gI (kG KK), 161, .inl (fun _ => 0)))]) C dX6_init_37 jp_RX6_21 (hin rfl) rfl (Nat.le_of_ble_eq_true rfl) rfl rfl ⟨_, rfl, rfl⟩ rfl ?_
  refine j_widen (ca' := 4) (sl' := 643) (by decide) (by decide) ?_
  exact hret _ _ _ dX6_init_40 ⟨q1, q2, q3, q4, rfl⟩
set_option maxHeartbeats 4000000 in
set_option maxRecDepth 100000 in
theorem c_X3_init (l : Launch) (g : jG) (h : Nat) : Cv l g yX3_init cX3_init 1 2 32 5 649 lW [.ref h] [(h, .inr (3, [.null, .int 0]))] (fun z => ∃ q1 q2 q3 q4 q5 : Nat, z = [(h, .inr (3, [.ref q1, .int 0])), (q1, .inr (6, [.ref q2, .int 0, .ref q3, .ref q4, .ref q5, .int 0])), (q2, .inl (gI g, 160, .inl (fun _ => 0))), (q3, .inl (gI g, 161, .inl (fun _ => 0))), (q4, .inl (gI g, 161, .inl (fun _ => 0))), (q5, .inl (gI g, 161, .inl (fun _ => 0)))]) := by
  refine mk_v (by decide +kernel) rfl (fun KK hKl hKg C hin hret => ?_)
  subst hKl; subst hKg
  refine j_lv (lv' := [(0, _)]) rfl ?_
  refine j_aload_n C dX3_init_0 rfl rfl ?_
  refine j_objI C dX3_init_1 jo_RX3_3 (by decide) (Nat.le_of_ble_eq_true rfl) ?_
  refine j_aload_n C dX3_init_4 rfl rfl ?_
  refine j_new C jnw_RX3_9 dX3_init_5 (by decide) (by decide) (fun q1 => ?_)
  refine j_st (y := [(h, .inr (3, [.null, .int 0])), (q1, .inr (6, [.null, .int 0, .null, .null, .null, .int 0]))]) rfl ?_
  refine j_dup C dX3_init_8 rfl ?_
  refine j_st (y := [(h, .inr (3, [.null, .int 0]))] ++ [(q1, .inr (6, [.null, .int 0, .null, .null, .null, .int 0]))]) rfl ?_
  refine j_ctorN C ([(h, .inr (3, [.null, .int 0]))]) (c_X6_init _ _ q1) dX3_init_9 jmn_RX3_11 ⟨by decide, by decide, by decide, by decide⟩ (Nat.le_of_ble_eq_true rfl) (fun z hz => ?_)
  obtain ⟨q2, q3, q4, q5, hz9⟩ := hz
  subst hz9
  refine j_st (y := [(h, .inr (3, [.null, .int 0])), (q1, .inr (6, [.ref q2, .int 0, .ref q3, .ref q4, .ref q5, .int 0])), (q2, .inl (gI (kG KK), 160, .inl (fun _ => 0))), (q3, .inl (gI (kG KK), 161, .inl (fun _ => 0))), (q4, .inl (gI (kG KK), 161, .inl (fun _ => 0))), (q5, .inl (gI (kG KK), 161, .inl (fun _ => 0)))]) rfl ?_
  refine j_putF (k := 0) (y := [(h, .inr (3, [.ref q1, .int 0])), (q1, .inr (6, [.ref q2, .int 0, .ref q3, .ref q4, .ref q5, .int 0])), (q2, .inl (gI (kG KK), 160, .inl (fun _ => 0))), (q3, .inl (gI (kG KK), 161, .inl (fun _ => 0))), (q4, .inl (gI (kG KK), 161, .inl (fun _ => 0))), (q5, .inl (gI (kG KK), 161, .inl (fun _ => 0)))]) C dX3_init_12 jp_RX3_12 (hin rfl) rfl (Nat.le_of_ble_eq_true rfl) rfl rfl ⟨_, rfl, rfl⟩ rfl ?_
  refine j_widen (ca' := 5) (sl' := 649) (by decide) (by decide) ?_
  exact hret _ _ _ dX3_init_15 ⟨q1, q2, q3, q4, q5, rfl⟩
set_option maxHeartbeats 4000000 in
set_option maxRecDepth 100000 in
theorem c_X4_init (l : Launch) (g : jG) (h : Nat) : Cv l g yX4_init cX4_init 1 1 12 1 160 lW [.ref h] [(h, .inr (4, [.null, .int 0, .int 0, .int 0, .int 0, .int 0, .int 0, .int 0]))] (fun z => ∃ q1 : Nat, z = [(h, .inr (4, [.ref q1, .int 0, .int 0, .int 0, .int 0, .int 0, .int 0, .int 0])), (q1, .inl (gI g, 160, .inl (fun _ => 0)))]) := by
  refine mk_v (by decide +kernel) rfl (fun KK hKl hKg C hin hret => ?_)
  subst hKl; subst hKg
  refine j_lv (lv' := [(0, _)]) rfl ?_
  refine j_aload_n C dX4_init_0 rfl rfl ?_
  refine j_objI C dX4_init_1 jo_RX4_3 (by decide) (Nat.le_of_ble_eq_true rfl) ?_
  refine j_aload_n C dX4_init_4 rfl rfl ?_
  refine j_sipush (v := 160) C dX4_init_5 rfl ?_
  refine j_newI (N := 160) C dX4_init_8 jac_int (by decide) rfl (by decide) (by decide) (by decide) (fun q1 => ?_)
  refine j_st (y := [(h, .inr (4, [.null, .int 0, .int 0, .int 0, .int 0, .int 0, .int 0, .int 0])), (q1, .inl (gI (kG KK), 160, .inl (fun _ => 0)))]) rfl ?_
  refine j_putF (k := 0) (y := [(h, .inr (4, [.ref q1, .int 0, .int 0, .int 0, .int 0, .int 0, .int 0, .int 0])), (q1, .inl (gI (kG KK), 160, .inl (fun _ => 0)))]) C dX4_init_10 jp_RX4_9 (hin rfl) rfl (Nat.le_of_ble_eq_true rfl) rfl rfl ⟨_, rfl, rfl⟩ rfl ?_
  refine j_widen (ca' := 1) (sl' := 160) (by decide) (by decide) ?_
  exact hret _ _ _ dX4_init_13 ⟨q1, rfl⟩
set_option maxHeartbeats 4000000 in
set_option maxRecDepth 100000 in
theorem c_X0_init (l : Launch) (g : jG) (h : Nat) : Cv l g yX0_init cX0_init 1 2 32 5 258 lW [.ref h] [(h, .inr (0, [.null, .null, .null, .null]))] (fun z => ∃ q1 q2 q3 q4 q5 : Nat, z = [(h, .inr (0, [.ref q1, .ref q2, .ref q3, .ref q4])), (q1, .inl (gI g, 30, .inl (fun _ => 0))), (q2, .inl (gI g, 30, .inl (fun _ => 0))), (q3, .inl (gI g, 30, .inl (fun _ => 0))), (q4, .inr (4, [.ref q5, .int 0, .int 0, .int 0, .int 0, .int 0, .int 0, .int 0])), (q5, .inl (gI g, 160, .inl (fun _ => 0)))]) := by
  refine mk_v (by decide +kernel) rfl (fun KK hKl hKg C hin hret => ?_)
  subst hKl; subst hKg
  refine j_lv (lv' := [(0, _)]) rfl ?_
  refine j_aload_n C dX0_init_0 rfl rfl ?_
  refine j_objI C dX0_init_1 jo_RX0_3 (by decide) (Nat.le_of_ble_eq_true rfl) ?_
  refine j_aload_n C dX0_init_4 rfl rfl ?_
  refine j_bipush (v := 30) C dX0_init_5 rfl ?_
  refine j_newI (N := 30) C dX0_init_7 jac_int (by decide) rfl (by decide) (by decide) (by decide) (fun q1 => ?_)
  refine j_st (y := [(h, .inr (0, [.null, .null, .null, .null])), (q1, .inl (gI (kG KK), 30, .inl (fun _ => 0)))]) rfl ?_
  refine j_putF (k := 0) (y := [(h, .inr (0, [.ref q1, .null, .null, .null])), (q1, .inl (gI (kG KK), 30, .inl (fun _ => 0)))]) C dX0_init_9 jp_RX0_9 (hin rfl) rfl (Nat.le_of_ble_eq_true rfl) rfl rfl ⟨_, rfl, rfl⟩ rfl ?_
  refine j_aload_n C dX0_init_12 rfl rfl ?_
  refine j_bipush (v := 30) C dX0_init_13 rfl ?_
  refine j_newI (N := 30) C dX0_init_15 jac_int (by decide) rfl (by decide) (by decide) (by decide) (fun q2 => ?_)
  refine j_st (y := [(h, .inr (0, [.ref q1, .null, .null, .null])), (q1, .inl (gI (kG KK), 30, .inl (fun _ => 0))), (q2, .inl (gI (kG KK), 30, .inl (fun _ => 0)))]) rfl ?_
  refine j_putF (k := 0) (y := [(h, .inr (0, [.ref q1, .ref q2, .null, .null])), (q1, .inl (gI (kG KK), 30, .inl (fun _ => 0))), (q2, .inl (gI (kG KK), 30, .inl (fun _ => 0)))]) C dX0_init_17 jp_RX0_15 (hin rfl) rfl (Nat.le_of_ble_eq_true rfl) rfl rfl ⟨_, rfl, rfl⟩ rfl ?_
  refine j_aload_n C dX0_init_20 rfl rfl ?_
  refine j_bipush (v := 30) C dX0_init_21 rfl ?_
  refine j_newI (N := 30) C dX0_init_23 jac_int (by decide) rfl (by decide) (by decide) (by decide) (fun q3 => ?_)
  refine j_st (y := [(h, .inr (0, [.ref q1, .ref q2, .null, .null])), (q1, .inl (gI (kG KK), 30, .inl (fun _ => 0))), (q2, .inl (gI (kG KK), 30, .inl (fun _ => 0))), (q3, .inl (gI (kG KK), 30, .inl (fun _ => 0)))]) rfl ?_
  refine j_putF (k := 0) (y := [(h, .inr (0, [.ref q1, .ref q2, .ref q3, .null])), (q1, .inl (gI (kG KK), 30, .inl (fun _ => 0))), (q2, .inl (gI (kG KK), 30, .inl (fun _ => 0))), (q3, .inl (gI (kG KK), 30, .inl (fun _ => 0)))]) C dX0_init_25 jp_RX0_18 (hin rfl) rfl (Nat.le_of_ble_eq_true rfl) rfl rfl ⟨_, rfl, rfl⟩ rfl ?_
  refine j_aload_n C dX0_init_28 rfl rfl ?_
  refine j_new C jnw_RX0_21 dX0_init_29 (by decide) (by decide) (fun q4 => ?_)
  refine j_st (y := [(h, .inr (0, [.ref q1, .ref q2, .ref q3, .null])), (q1, .inl (gI (kG KK), 30, .inl (fun _ => 0))), (q2, .inl (gI (kG KK), 30, .inl (fun _ => 0))), (q3, .inl (gI (kG KK), 30, .inl (fun _ => 0))), (q4, .inr (4, [.null, .int 0, .int 0, .int 0, .int 0, .int 0, .int 0, .int 0]))]) rfl ?_
  refine j_dup C dX0_init_32 rfl ?_
  refine j_st (y := [(h, .inr (0, [.ref q1, .ref q2, .ref q3, .null])), (q1, .inl (gI (kG KK), 30, .inl (fun _ => 0))), (q2, .inl (gI (kG KK), 30, .inl (fun _ => 0))), (q3, .inl (gI (kG KK), 30, .inl (fun _ => 0)))] ++ [(q4, .inr (4, [.null, .int 0, .int 0, .int 0, .int 0, .int 0, .int 0, .int 0]))]) rfl ?_
  refine j_ctorN C ([(h, .inr (0, [.ref q1, .ref q2, .ref q3, .null])), (q1, .inl (gI (kG KK), 30, .inl (fun _ => 0))), (q2, .inl (gI (kG KK), 30, .inl (fun _ => 0))), (q3, .inl (gI (kG KK), 30, .inl (fun _ => 0)))]) (c_X4_init _ _ q4) dX0_init_33 jmn_RX0_23 ⟨by decide, by decide, by decide, by decide⟩ (Nat.le_of_ble_eq_true rfl) (fun z hz => ?_)
  obtain ⟨q5, hz9⟩ := hz
  subst hz9
  refine j_st (y := [(h, .inr (0, [.ref q1, .ref q2, .ref q3, .null])), (q1, .inl (gI (kG KK), 30, .inl (fun _ => 0))), (q2, .inl (gI (kG KK), 30, .inl (fun _ => 0))), (q3, .inl (gI (kG KK), 30, .inl (fun _ => 0))), (q4, .inr (4, [.ref q5, .int 0, .int 0, .int 0, .int 0, .int 0, .int 0, .int 0])), (q5, .inl (gI (kG KK), 160, .inl (fun _ => 0)))]) rfl ?_
  refine j_putF (k := 0) (y := [(h, .inr (0, [.ref q1, .ref q2, .ref q3, .ref q4])), (q1, .inl (gI (kG KK), 30, .inl (fun _ => 0))), (q2, .inl (gI (kG KK), 30, .inl (fun _ => 0))), (q3, .inl (gI (kG KK), 30, .inl (fun _ => 0))), (q4, .inr (4, [.ref q5, .int 0, .int 0, .int 0, .int 0, .int 0, .int 0, .int 0])), (q5, .inl (gI (kG KK), 160, .inl (fun _ => 0)))]) C dX0_init_36 jp_RX0_24 (hin rfl) rfl (Nat.le_of_ble_eq_true rfl) rfl rfl ⟨_, rfl, rfl⟩ rfl ?_
  refine j_widen (ca' := 5) (sl' := 258) (by decide) (by decide) ?_
  exact hret _ _ _ dX0_init_39 ⟨q1, q2, q3, q4, q5, rfl⟩
set_option maxHeartbeats 4000000 in
set_option maxRecDepth 100000 in
theorem c_X2_init (l : Launch) (g : jG) (h : Nat) : Cv l g yX2_init cX2_init 2 2 32 8 39 lW [.ref h] [(h, .inr (2, [.null, .null, .int 0, .int 0, .int 0]))] (fun z => ∃ q1 q2 q3 q4 q5 q6 q7 q8 : Nat, z = [(h, .inr (2, [.ref q1, .ref q2, .int 0, .int 0, .int 0])), (q1, .inl (gGl g, 6, .inr (.inr (.inr (.inr (va_up (va_up (va_up (va_up (va_up (va_up (fun _ => none) 0 (some q3)) 1 (some q4)) 2 (some q5)) 3 (some q6)) 4 (some q7)) 5 (some q8))))))), (q2, .inr (8, [.int 0, .int 0, .int 0])), (q3, .inr (1, [.int 0, .int 0, .int 0, .int 0, .int 0])), (q4, .inr (1, [.int 0, .int 0, .int 0, .int 0, .int 0])), (q5, .inr (1, [.int 0, .int 0, .int 0, .int 0, .int 0])), (q6, .inr (1, [.int 0, .int 0, .int 0, .int 0, .int 0])), (q7, .inr (1, [.int 0, .int 0, .int 0, .int 0, .int 0])), (q8, .inr (1, [.int 0, .int 0, .int 0, .int 0, .int 0]))]) := by
  refine mk_v (by decide +kernel) rfl (fun KK hKl hKg C hin hret => ?_)
  subst hKl; subst hKg
  refine j_lv (lv' := [(0, _)]) rfl ?_
  refine j_aload_n C dX2_init_0 rfl rfl ?_
  refine j_objI C dX2_init_1 jo_RX2_3 (by decide) (Nat.le_of_ble_eq_true rfl) ?_
  refine j_aload_n C dX2_init_4 rfl rfl ?_
  refine j_bipush (v := 6) C dX2_init_5 rfl ?_
  refine j_newQ (N := 6) (t := 2) C gty_2 dX2_init_7 jcl_RX2_9 C.2.2.2.2.2.2.2.2.2.2.2.2.2.2.2.2.1 (by decide) rfl (by decide) (by decide) (by decide) (fun q1 => ?_)
  refine j_st (y := [(h, .inr (2, [.null, .null, .int 0, .int 0, .int 0])), (q1, .inl (gGl (kG KK), 6, .inr (.inr (.inr (.inr (fun _ => none))))))]) rfl ?_
  refine j_putF (k := 0) (y := [(h, .inr (2, [.ref q1, .null, .int 0, .int 0, .int 0])), (q1, .inl (gGl (kG KK), 6, .inr (.inr (.inr (.inr (fun _ => none))))))]) C dX2_init_10 jp_RX2_11 (hin rfl) rfl (Nat.le_of_ble_eq_true rfl) rfl rfl ⟨_, rfl, rfl⟩ rfl ?_
  refine j_aload_n C dX2_init_13 rfl rfl ?_
  refine j_new C jnw_RX2_17 dX2_init_14 (by decide) (by decide) (fun q2 => ?_)
  refine j_st (y := [(h, .inr (2, [.ref q1, .null, .int 0, .int 0, .int 0])), (q1, .inl (gGl (kG KK), 6, .inr (.inr (.inr (.inr (fun _ => none)))))), (q2, .inr (8, [.int 0, .int 0, .int 0]))]) rfl ?_
  refine j_dup C dX2_init_17 rfl ?_
  refine j_st (y := [(h, .inr (2, [.ref q1, .null, .int 0, .int 0, .int 0])), (q1, .inl (gGl (kG KK), 6, .inr (.inr (.inr (.inr (fun _ => none))))))] ++ [(q2, .inr (8, [.int 0, .int 0, .int 0]))]) rfl ?_
  refine j_ctorN C ([(h, .inr (2, [.ref q1, .null, .int 0, .int 0, .int 0])), (q1, .inl (gGl (kG KK), 6, .inr (.inr (.inr (.inr (fun _ => none))))))]) (c_X8_init _ _ q2) dX2_init_18 jmn_RX2_19 ⟨by decide, by decide, by decide, by decide⟩ (Nat.le_of_ble_eq_true rfl) (fun z hz => ?_)
  have hz9 := hz
  subst hz9
  refine j_st (y := [(h, .inr (2, [.ref q1, .null, .int 0, .int 0, .int 0])), (q1, .inl (gGl (kG KK), 6, .inr (.inr (.inr (.inr (fun _ => none)))))), (q2, .inr (8, [.int 0, .int 0, .int 0]))]) rfl ?_
  refine j_putF (k := 0) (y := [(h, .inr (2, [.ref q1, .ref q2, .int 0, .int 0, .int 0])), (q1, .inl (gGl (kG KK), 6, .inr (.inr (.inr (.inr (fun _ => none)))))), (q2, .inr (8, [.int 0, .int 0, .int 0]))]) C dX2_init_21 jp_RX2_20 (hin rfl) rfl (Nat.le_of_ble_eq_true rfl) rfl rfl ⟨_, rfl, rfl⟩ rfl ?_
  refine j_iconst (v := 0) C dX2_init_24 rfl ?_
  refine j_istore_n (lv' := [(1, _), (0, _)]) C dX2_init_25 rfl (by decide) rfl ?_
  refine j_iload_n C dX2_init_26 rfl rfl ?_
  refine j_aload_n C dX2_init_27 rfl rfl ?_
  refine j_get (k := 0) C dX2_init_28 jf_RX2_11 rfl rfl ?_
  refine j_alen (k := 1) (v := 6) C dX2_init_31 rfl gty_2 rfl ?_
  refine j_icmp_ge (tgt := 54) C dX2_init_32 (by decide) (fun c => absurd c (by decide)) (fun _ => ?_)
  refine j_aload_n C dX2_init_35 rfl rfl ?_
  refine j_get (k := 0) C dX2_init_36 jf_RX2_11 rfl rfl ?_
  refine j_iload_n C dX2_init_39 rfl rfl ?_
  refine j_new C jnw_RX2_9 dX2_init_40 (by decide) (by decide) (fun q3 => ?_)
  refine j_st (y := [(h, .inr (2, [.ref q1, .ref q2, .int 0, .int 0, .int 0])), (q1, .inl (gGl (kG KK), 6, .inr (.inr (.inr (.inr (fun _ => none)))))), (q2, .inr (8, [.int 0, .int 0, .int 0])), (q3, .inr (1, [.int 0, .int 0, .int 0, .int 0, .int 0]))]) rfl ?_
  refine j_dup C dX2_init_43 rfl ?_
  refine j_st (y := [(h, .inr (2, [.ref q1, .ref q2, .int 0, .int 0, .int 0])), (q1, .inl (gGl (kG KK), 6, .inr (.inr (.inr (.inr (fun _ => none)))))), (q2, .inr (8, [.int 0, .int 0, .int 0]))] ++ [(q3, .inr (1, [.int 0, .int 0, .int 0, .int 0, .int 0]))]) rfl ?_
  refine j_ctorN C ([(h, .inr (2, [.ref q1, .ref q2, .int 0, .int 0, .int 0])), (q1, .inl (gGl (kG KK), 6, .inr (.inr (.inr (.inr (fun _ => none)))))), (q2, .inr (8, [.int 0, .int 0, .int 0]))]) (c_X1_init _ _ q3) dX2_init_44 jmn_RX2_24 ⟨by decide, by decide, by decide, by decide⟩ (Nat.le_of_ble_eq_true rfl) (fun z hz => ?_)
  have hz9 := hz
  subst hz9
  refine j_st (y := [(h, .inr (2, [.ref q1, .ref q2, .int 0, .int 0, .int 0])), (q1, .inl (gGl (kG KK), 6, .inr (.inr (.inr (.inr (fun _ => none)))))), (q2, .inr (8, [.int 0, .int 0, .int 0])), (q3, .inr (1, [.int 0, .int 0, .int 0, .int 0, .int 0]))]) rfl ?_
  refine j_aast (k := 1) (t := 2) (qk := 3) (ci := 1) (r := (RX1, TX1, 5)) (y := [(h, .inr (2, [.ref q1, .ref q2, .int 0, .int 0, .int 0])), (q1, .inl (gGl (kG KK), 6, .inr (.inr (.inr (.inr (va_up (fun _ => none) 0 (some q3))))))), (q2, .inr (8, [.int 0, .int 0, .int 0])), (q3, .inr (1, [.int 0, .int 0, .int 0, .int 0, .int 0]))]) C 0 dX2_init_47 rfl gty_2 rfl rfl rfl (by decide) (by decide) rfl ?_
  refine j_iinc (lv' := [(1, _), (0, _)]) (v := 1) C dX2_init_48 rfl (by decide) (by decide) rfl ?_
  refine j_goto (tgt := 26) C dX2_init_51 (by decide) ?_
  refine j_iload_n C dX2_init_26 rfl rfl ?_
  refine j_aload_n C dX2_init_27 rfl rfl ?_
  refine j_get (k := 0) C dX2_init_28 jf_RX2_11 rfl rfl ?_
  refine j_alen (k := 1) (v := 6) C dX2_init_31 rfl gty_2 rfl ?_
  refine j_icmp_ge (tgt := 54) C dX2_init_32 (by decide) (fun c => absurd c (by decide)) (fun _ => ?_)
  refine j_aload_n C dX2_init_35 rfl rfl ?_
  refine j_get (k := 0) C dX2_init_36 jf_RX2_11 rfl rfl ?_
  refine j_iload_n C dX2_init_39 rfl rfl ?_
  refine j_new C jnw_RX2_9 dX2_init_40 (by decide) (by decide) (fun q4 => ?_)
  refine j_st (y := [(h, .inr (2, [.ref q1, .ref q2, .int 0, .int 0, .int 0])), (q1, .inl (gGl (kG KK), 6, .inr (.inr (.inr (.inr (va_up (fun _ => none) 0 (some q3))))))), (q2, .inr (8, [.int 0, .int 0, .int 0])), (q3, .inr (1, [.int 0, .int 0, .int 0, .int 0, .int 0])), (q4, .inr (1, [.int 0, .int 0, .int 0, .int 0, .int 0]))]) rfl ?_
  refine j_dup C dX2_init_43 rfl ?_
  refine j_st (y := [(h, .inr (2, [.ref q1, .ref q2, .int 0, .int 0, .int 0])), (q1, .inl (gGl (kG KK), 6, .inr (.inr (.inr (.inr (va_up (fun _ => none) 0 (some q3))))))), (q2, .inr (8, [.int 0, .int 0, .int 0])), (q3, .inr (1, [.int 0, .int 0, .int 0, .int 0, .int 0]))] ++ [(q4, .inr (1, [.int 0, .int 0, .int 0, .int 0, .int 0]))]) rfl ?_
  refine j_ctorN C ([(h, .inr (2, [.ref q1, .ref q2, .int 0, .int 0, .int 0])), (q1, .inl (gGl (kG KK), 6, .inr (.inr (.inr (.inr (va_up (fun _ => none) 0 (some q3))))))), (q2, .inr (8, [.int 0, .int 0, .int 0])), (q3, .inr (1, [.int 0, .int 0, .int 0, .int 0, .int 0]))]) (c_X1_init _ _ q4) dX2_init_44 jmn_RX2_24 ⟨by decide, by decide, by decide, by decide⟩ (Nat.le_of_ble_eq_true rfl) (fun z hz => ?_)
  have hz9 := hz
  subst hz9
  refine j_st (y := [(h, .inr (2, [.ref q1, .ref q2, .int 0, .int 0, .int 0])), (q1, .inl (gGl (kG KK), 6, .inr (.inr (.inr (.inr (va_up (fun _ => none) 0 (some q3))))))), (q2, .inr (8, [.int 0, .int 0, .int 0])), (q3, .inr (1, [.int 0, .int 0, .int 0, .int 0, .int 0])), (q4, .inr (1, [.int 0, .int 0, .int 0, .int 0, .int 0]))]) rfl ?_
  refine j_aast (k := 1) (t := 2) (qk := 4) (ci := 1) (r := (RX1, TX1, 5)) (y := [(h, .inr (2, [.ref q1, .ref q2, .int 0, .int 0, .int 0])), (q1, .inl (gGl (kG KK), 6, .inr (.inr (.inr (.inr (va_up (va_up (fun _ => none) 0 (some q3)) 1 (some q4))))))), (q2, .inr (8, [.int 0, .int 0, .int 0])), (q3, .inr (1, [.int 0, .int 0, .int 0, .int 0, .int 0])), (q4, .inr (1, [.int 0, .int 0, .int 0, .int 0, .int 0]))]) C 1 dX2_init_47 rfl gty_2 rfl rfl rfl (by decide) (by decide) rfl ?_
  refine j_iinc (lv' := [(1, _), (0, _)]) (v := 2) C dX2_init_48 rfl (by decide) (by decide) rfl ?_
  refine j_goto (tgt := 26) C dX2_init_51 (by decide) ?_
  refine j_iload_n C dX2_init_26 rfl rfl ?_
  refine j_aload_n C dX2_init_27 rfl rfl ?_
  refine j_get (k := 0) C dX2_init_28 jf_RX2_11 rfl rfl ?_
  refine j_alen (k := 1) (v := 6) C dX2_init_31 rfl gty_2 rfl ?_
  refine j_icmp_ge (tgt := 54) C dX2_init_32 (by decide) (fun c => absurd c (by decide)) (fun _ => ?_)
  refine j_aload_n C dX2_init_35 rfl rfl ?_
  refine j_get (k := 0) C dX2_init_36 jf_RX2_11 rfl rfl ?_
  refine j_iload_n C dX2_init_39 rfl rfl ?_
  refine j_new C jnw_RX2_9 dX2_init_40 (by decide) (by decide) (fun q5 => ?_)
  refine j_st (y := [(h, .inr (2, [.ref q1, .ref q2, .int 0, .int 0, .int 0])), (q1, .inl (gGl (kG KK), 6, .inr (.inr (.inr (.inr (va_up (va_up (fun _ => none) 0 (some q3)) 1 (some q4))))))), (q2, .inr (8, [.int 0, .int 0, .int 0])), (q3, .inr (1, [.int 0, .int 0, .int 0, .int 0, .int 0])), (q4, .inr (1, [.int 0, .int 0, .int 0, .int 0, .int 0])), (q5, .inr (1, [.int 0, .int 0, .int 0, .int 0, .int 0]))]) rfl ?_
  refine j_dup C dX2_init_43 rfl ?_
  refine j_st (y := [(h, .inr (2, [.ref q1, .ref q2, .int 0, .int 0, .int 0])), (q1, .inl (gGl (kG KK), 6, .inr (.inr (.inr (.inr (va_up (va_up (fun _ => none) 0 (some q3)) 1 (some q4))))))), (q2, .inr (8, [.int 0, .int 0, .int 0])), (q3, .inr (1, [.int 0, .int 0, .int 0, .int 0, .int 0])), (q4, .inr (1, [.int 0, .int 0, .int 0, .int 0, .int 0]))] ++ [(q5, .inr (1, [.int 0, .int 0, .int 0, .int 0, .int 0]))]) rfl ?_
  refine j_ctorN C ([(h, .inr (2, [.ref q1, .ref q2, .int 0, .int 0, .int 0])), (q1, .inl (gGl (kG KK), 6, .inr (.inr (.inr (.inr (va_up (va_up (fun _ => none) 0 (some q3)) 1 (some q4))))))), (q2, .inr (8, [.int 0, .int 0, .int 0])), (q3, .inr (1, [.int 0, .int 0, .int 0, .int 0, .int 0])), (q4, .inr (1, [.int 0, .int 0, .int 0, .int 0, .int 0]))]) (c_X1_init _ _ q5) dX2_init_44 jmn_RX2_24 ⟨by decide, by decide, by decide, by decide⟩ (Nat.le_of_ble_eq_true rfl) (fun z hz => ?_)
  have hz9 := hz
  subst hz9
  refine j_st (y := [(h, .inr (2, [.ref q1, .ref q2, .int 0, .int 0, .int 0])), (q1, .inl (gGl (kG KK), 6, .inr (.inr (.inr (.inr (va_up (va_up (fun _ => none) 0 (some q3)) 1 (some q4))))))), (q2, .inr (8, [.int 0, .int 0, .int 0])), (q3, .inr (1, [.int 0, .int 0, .int 0, .int 0, .int 0])), (q4, .inr (1, [.int 0, .int 0, .int 0, .int 0, .int 0])), (q5, .inr (1, [.int 0, .int 0, .int 0, .int 0, .int 0]))]) rfl ?_
  refine j_aast (k := 1) (t := 2) (qk := 5) (ci := 1) (r := (RX1, TX1, 5)) (y := [(h, .inr (2, [.ref q1, .ref q2, .int 0, .int 0, .int 0])), (q1, .inl (gGl (kG KK), 6, .inr (.inr (.inr (.inr (va_up (va_up (va_up (fun _ => none) 0 (some q3)) 1 (some q4)) 2 (some q5))))))), (q2, .inr (8, [.int 0, .int 0, .int 0])), (q3, .inr (1, [.int 0, .int 0, .int 0, .int 0, .int 0])), (q4, .inr (1, [.int 0, .int 0, .int 0, .int 0, .int 0])), (q5, .inr (1, [.int 0, .int 0, .int 0, .int 0, .int 0]))]) C 2 dX2_init_47 rfl gty_2 rfl rfl rfl (by decide) (by decide) rfl ?_
  refine j_iinc (lv' := [(1, _), (0, _)]) (v := 3) C dX2_init_48 rfl (by decide) (by decide) rfl ?_
  refine j_goto (tgt := 26) C dX2_init_51 (by decide) ?_
  refine j_iload_n C dX2_init_26 rfl rfl ?_
  refine j_aload_n C dX2_init_27 rfl rfl ?_
  refine j_get (k := 0) C dX2_init_28 jf_RX2_11 rfl rfl ?_
  refine j_alen (k := 1) (v := 6) C dX2_init_31 rfl gty_2 rfl ?_
  refine j_icmp_ge (tgt := 54) C dX2_init_32 (by decide) (fun c => absurd c (by decide)) (fun _ => ?_)
  refine j_aload_n C dX2_init_35 rfl rfl ?_
  refine j_get (k := 0) C dX2_init_36 jf_RX2_11 rfl rfl ?_
  refine j_iload_n C dX2_init_39 rfl rfl ?_
  refine j_new C jnw_RX2_9 dX2_init_40 (by decide) (by decide) (fun q6 => ?_)
  refine j_st (y := [(h, .inr (2, [.ref q1, .ref q2, .int 0, .int 0, .int 0])), (q1, .inl (gGl (kG KK), 6, .inr (.inr (.inr (.inr (va_up (va_up (va_up (fun _ => none) 0 (some q3)) 1 (some q4)) 2 (some q5))))))), (q2, .inr (8, [.int 0, .int 0, .int 0])), (q3, .inr (1, [.int 0, .int 0, .int 0, .int 0, .int 0])), (q4, .inr (1, [.int 0, .int 0, .int 0, .int 0, .int 0])), (q5, .inr (1, [.int 0, .int 0, .int 0, .int 0, .int 0])), (q6, .inr (1, [.int 0, .int 0, .int 0, .int 0, .int 0]))]) rfl ?_
  refine j_dup C dX2_init_43 rfl ?_
  refine j_st (y := [(h, .inr (2, [.ref q1, .ref q2, .int 0, .int 0, .int 0])), (q1, .inl (gGl (kG KK), 6, .inr (.inr (.inr (.inr (va_up (va_up (va_up (fun _ => none) 0 (some q3)) 1 (some q4)) 2 (some q5))))))), (q2, .inr (8, [.int 0, .int 0, .int 0])), (q3, .inr (1, [.int 0, .int 0, .int 0, .int 0, .int 0])), (q4, .inr (1, [.int 0, .int 0, .int 0, .int 0, .int 0])), (q5, .inr (1, [.int 0, .int 0, .int 0, .int 0, .int 0]))] ++ [(q6, .inr (1, [.int 0, .int 0, .int 0, .int 0, .int 0]))]) rfl ?_
  refine j_ctorN C ([(h, .inr (2, [.ref q1, .ref q2, .int 0, .int 0, .int 0])), (q1, .inl (gGl (kG KK), 6, .inr (.inr (.inr (.inr (va_up (va_up (va_up (fun _ => none) 0 (some q3)) 1 (some q4)) 2 (some q5))))))), (q2, .inr (8, [.int 0, .int 0, .int 0])), (q3, .inr (1, [.int 0, .int 0, .int 0, .int 0, .int 0])), (q4, .inr (1, [.int 0, .int 0, .int 0, .int 0, .int 0])), (q5, .inr (1, [.int 0, .int 0, .int 0, .int 0, .int 0]))]) (c_X1_init _ _ q6) dX2_init_44 jmn_RX2_24 ⟨by decide, by decide, by decide, by decide⟩ (Nat.le_of_ble_eq_true rfl) (fun z hz => ?_)
  have hz9 := hz
  subst hz9
  refine j_st (y := [(h, .inr (2, [.ref q1, .ref q2, .int 0, .int 0, .int 0])), (q1, .inl (gGl (kG KK), 6, .inr (.inr (.inr (.inr (va_up (va_up (va_up (fun _ => none) 0 (some q3)) 1 (some q4)) 2 (some q5))))))), (q2, .inr (8, [.int 0, .int 0, .int 0])), (q3, .inr (1, [.int 0, .int 0, .int 0, .int 0, .int 0])), (q4, .inr (1, [.int 0, .int 0, .int 0, .int 0, .int 0])), (q5, .inr (1, [.int 0, .int 0, .int 0, .int 0, .int 0])), (q6, .inr (1, [.int 0, .int 0, .int 0, .int 0, .int 0]))]) rfl ?_
  refine j_aast (k := 1) (t := 2) (qk := 6) (ci := 1) (r := (RX1, TX1, 5)) (y := [(h, .inr (2, [.ref q1, .ref q2, .int 0, .int 0, .int 0])), (q1, .inl (gGl (kG KK), 6, .inr (.inr (.inr (.inr (va_up (va_up (va_up (va_up (fun _ => none) 0 (some q3)) 1 (some q4)) 2 (some q5)) 3 (some q6))))))), (q2, .inr (8, [.int 0, .int 0, .int 0])), (q3, .inr (1, [.int 0, .int 0, .int 0, .int 0, .int 0])), (q4, .inr (1, [.int 0, .int 0, .int 0, .int 0, .int 0])), (q5, .inr (1, [.int 0, .int 0, .int 0, .int 0, .int 0])), (q6, .inr (1, [.int 0, .int 0, .int 0, .int 0, .int 0]))]) C 3 dX2_init_47 rfl gty_2 rfl rfl rfl (by decide) (by decide) rfl ?_
  refine j_iinc (lv' := [(1, _), (0, _)]) (v := 4) C dX2_init_48 rfl (by decide) (by decide) rfl ?_
  refine j_goto (tgt := 26) C dX2_init_51 (by decide) ?_
  refine j_iload_n C dX2_init_26 rfl rfl ?_
  refine j_aload_n C dX2_init_27 rfl rfl ?_
  refine j_get (k := 0) C dX2_init_28 jf_RX2_11 rfl rfl ?_
  refine j_alen (k := 1) (v := 6) C dX2_init_31 rfl gty_2 rfl ?_
  refine j_icmp_ge (tgt := 54) C dX2_init_32 (by decide) (fun c => absurd c (by decide)) (fun _ => ?_)
  refine j_aload_n C dX2_init_35 rfl rfl ?_
  refine j_get (k := 0) C dX2_init_36 jf_RX2_11 rfl rfl ?_
  refine j_iload_n C dX2_init_39 rfl rfl ?_
  refine j_new C jnw_RX2_9 dX2_init_40 (by decide) (by decide) (fun q7 => ?_)
  refine j_st (y := [(h, .inr (2, [.ref q1, .ref q2, .int 0, .int 0, .int 0])), (q1, .inl (gGl (kG KK), 6, .inr (.inr (.inr (.inr (va_up (va_up (va_up (va_up (fun _ => none) 0 (some q3)) 1 (some q4)) 2 (some q5)) 3 (some q6))))))), (q2, .inr (8, [.int 0, .int 0, .int 0])), (q3, .inr (1, [.int 0, .int 0, .int 0, .int 0, .int 0])), (q4, .inr (1, [.int 0, .int 0, .int 0, .int 0, .int 0])), (q5, .inr (1, [.int 0, .int 0, .int 0, .int 0, .int 0])), (q6, .inr (1, [.int 0, .int 0, .int 0, .int 0, .int 0])), (q7, .inr (1, [.int 0, .int 0, .int 0, .int 0, .int 0]))]) rfl ?_
  refine j_dup C dX2_init_43 rfl ?_
  refine j_st (y := [(h, .inr (2, [.ref q1, .ref q2, .int 0, .int 0, .int 0])), (q1, .inl (gGl (kG KK), 6, .inr (.inr (.inr (.inr (va_up (va_up (va_up (va_up (fun _ => none) 0 (some q3)) 1 (some q4)) 2 (some q5)) 3 (some q6))))))), (q2, .inr (8, [.int 0, .int 0, .int 0])), (q3, .inr (1, [.int 0, .int 0, .int 0, .int 0, .int 0])), (q4, .inr (1, [.int 0, .int 0, .int 0, .int 0, .int 0])), (q5, .inr (1, [.int 0, .int 0, .int 0, .int 0, .int 0])), (q6, .inr (1, [.int 0, .int 0, .int 0, .int 0, .int 0]))] ++ [(q7, .inr (1, [.int 0, .int 0, .int 0, .int 0, .int 0]))]) rfl ?_
  refine j_ctorN C ([(h, .inr (2, [.ref q1, .ref q2, .int 0, .int 0, .int 0])), (q1, .inl (gGl (kG KK), 6, .inr (.inr (.inr (.inr (va_up (va_up (va_up (va_up (fun _ => none) 0 (some q3)) 1 (some q4)) 2 (some q5)) 3 (some q6))))))), (q2, .inr (8, [.int 0, .int 0, .int 0])), (q3, .inr (1, [.int 0, .int 0, .int 0, .int 0, .int 0])), (q4, .inr (1, [.int 0, .int 0, .int 0, .int 0, .int 0])), (q5, .inr (1, [.int 0, .int 0, .int 0, .int 0, .int 0])), (q6, .inr (1, [.int 0, .int 0, .int 0, .int 0, .int 0]))]) (c_X1_init _ _ q7) dX2_init_44 jmn_RX2_24 ⟨by decide, by decide, by decide, by decide⟩ (Nat.le_of_ble_eq_true rfl) (fun z hz => ?_)
  have hz9 := hz
  subst hz9
  refine j_st (y := [(h, .inr (2, [.ref q1, .ref q2, .int 0, .int 0, .int 0])), (q1, .inl (gGl (kG KK), 6, .inr (.inr (.inr (.inr (va_up (va_up (va_up (va_up (fun _ => none) 0 (some q3)) 1 (some q4)) 2 (some q5)) 3 (some q6))))))), (q2, .inr (8, [.int 0, .int 0, .int 0])), (q3, .inr (1, [.int 0, .int 0, .int 0, .int 0, .int 0])), (q4, .inr (1, [.int 0, .int 0, .int 0, .int 0, .int 0])), (q5, .inr (1, [.int 0, .int 0, .int 0, .int 0, .int 0])), (q6, .inr (1, [.int 0, .int 0, .int 0, .int 0, .int 0])), (q7, .inr (1, [.int 0, .int 0, .int 0, .int 0, .int 0]))]) rfl ?_
  refine j_aast (k := 1) (t := 2) (qk := 7) (ci := 1) (r := (RX1, TX1, 5)) (y := [(h, .inr (2, [.ref q1, .ref q2, .int 0, .int 0, .int 0])), (q1, .inl (gGl (kG KK), 6, .inr (.inr (.inr (.inr (va_up (va_up (va_up (va_up (va_up (fun _ => none) 0 (some q3)) 1 (some q4)) 2 (some q5)) 3 (some q6)) 4 (some q7))))))), (q2, .inr (8, [.int 0, .int 0, .int 0])), (q3, .inr (1, [.int 0, .int 0, .int 0, .int 0, .int 0])), (q4, .inr (1, [.int 0, .int 0, .int 0, .int 0, .int 0])), (q5, .inr (1, [.int 0, .int 0, .int 0, .int 0, .int 0])), (q6, .inr (1, [.int 0, .int 0, .int 0, .int 0, .int 0])), (q7, .inr (1, [.int 0, .int 0, .int 0, .int 0, .int 0]))]) C 4 dX2_init_47 rfl gty_2 rfl rfl rfl (by decide) (by decide) rfl ?_
  refine j_iinc (lv' := [(1, _), (0, _)]) (v := 5) C dX2_init_48 rfl (by decide) (by decide) rfl ?_
  refine j_goto (tgt := 26) C dX2_init_51 (by decide) ?_
  refine j_iload_n C dX2_init_26 rfl rfl ?_
  refine j_aload_n C dX2_init_27 rfl rfl ?_
  refine j_get (k := 0) C dX2_init_28 jf_RX2_11 rfl rfl ?_
  refine j_alen (k := 1) (v := 6) C dX2_init_31 rfl gty_2 rfl ?_
  refine j_icmp_ge (tgt := 54) C dX2_init_32 (by decide) (fun c => absurd c (by decide)) (fun _ => ?_)
  refine j_aload_n C dX2_init_35 rfl rfl ?_
  refine j_get (k := 0) C dX2_init_36 jf_RX2_11 rfl rfl ?_
  refine j_iload_n C dX2_init_39 rfl rfl ?_
  refine j_new C jnw_RX2_9 dX2_init_40 (by decide) (by decide) (fun q8 => ?_)
  refine j_st (y := [(h, .inr (2, [.ref q1, .ref q2, .int 0, .int 0, .int 0])), (q1, .inl (gGl (kG KK), 6, .inr (.inr (.inr (.inr (va_up (va_up (va_up (va_up (va_up (fun _ => none) 0 (some q3)) 1 (some q4)) 2 (some q5)) 3 (some q6)) 4 (some q7))))))), (q2, .inr (8, [.int 0, .int 0, .int 0])), (q3, .inr (1, [.int 0, .int 0, .int 0, .int 0, .int 0])), (q4, .inr (1, [.int 0, .int 0, .int 0, .int 0, .int 0])), (q5, .inr (1, [.int 0, .int 0, .int 0, .int 0, .int 0])), (q6, .inr (1, [.int 0, .int 0, .int 0, .int 0, .int 0])), (q7, .inr (1, [.int 0, .int 0, .int 0, .int 0, .int 0])), (q8, .inr (1, [.int 0, .int 0, .int 0, .int 0, .int 0]))]) rfl ?_
  refine j_dup C dX2_init_43 rfl ?_
  refine j_st (y := [(h, .inr (2, [.ref q1, .ref q2, .int 0, .int 0, .int 0])), (q1, .inl (gGl (kG KK), 6, .inr (.inr (.inr (.inr (va_up (va_up (va_up (va_up (va_up (fun _ => none) 0 (some q3)) 1 (some q4)) 2 (some q5)) 3 (some q6)) 4 (some q7))))))), (q2, .inr (8, [.int 0, .int 0, .int 0])), (q3, .inr (1, [.int 0, .int 0, .int 0, .int 0, .int 0])), (q4, .inr (1, [.int 0, .int 0, .int 0, .int 0, .int 0])), (q5, .inr (1, [.int 0, .int 0, .int 0, .int 0, .int 0])), (q6, .inr (1, [.int 0, .int 0, .int 0, .int 0, .int 0])), (q7, .inr (1, [.int 0, .int 0, .int 0, .int 0, .int 0]))] ++ [(q8, .inr (1, [.int 0, .int 0, .int 0, .int 0, .int 0]))]) rfl ?_
  refine j_ctorN C ([(h, .inr (2, [.ref q1, .ref q2, .int 0, .int 0, .int 0])), (q1, .inl (gGl (kG KK), 6, .inr (.inr (.inr (.inr (va_up (va_up (va_up (va_up (va_up (fun _ => none) 0 (some q3)) 1 (some q4)) 2 (some q5)) 3 (some q6)) 4 (some q7))))))), (q2, .inr (8, [.int 0, .int 0, .int 0])), (q3, .inr (1, [.int 0, .int 0, .int 0, .int 0, .int 0])), (q4, .inr (1, [.int 0, .int 0, .int 0, .int 0, .int 0])), (q5, .inr (1, [.int 0, .int 0, .int 0, .int 0, .int 0])), (q6, .inr (1, [.int 0, .int 0, .int 0, .int 0, .int 0])), (q7, .inr (1, [.int 0, .int 0, .int 0, .int 0, .int 0]))]) (c_X1_init _ _ q8) dX2_init_44 jmn_RX2_24 ⟨by decide, by decide, by decide, by decide⟩ (Nat.le_of_ble_eq_true rfl) (fun z hz => ?_)
  have hz9 := hz
  subst hz9
  refine j_st (y := [(h, .inr (2, [.ref q1, .ref q2, .int 0, .int 0, .int 0])), (q1, .inl (gGl (kG KK), 6, .inr (.inr (.inr (.inr (va_up (va_up (va_up (va_up (va_up (fun _ => none) 0 (some q3)) 1 (some q4)) 2 (some q5)) 3 (some q6)) 4 (some q7))))))), (q2, .inr (8, [.int 0, .int 0, .int 0])), (q3, .inr (1, [.int 0, .int 0, .int 0, .int 0, .int 0])), (q4, .inr (1, [.int 0, .int 0, .int 0, .int 0, .int 0])), (q5, .inr (1, [.int 0, .int 0, .int 0, .int 0, .int 0])), (q6, .inr (1, [.int 0, .int 0, .int 0, .int 0, .int 0])), (q7, .inr (1, [.int 0, .int 0, .int 0, .int 0, .int 0])), (q8, .inr (1, [.int 0, .int 0, .int 0, .int 0, .int 0]))]) rfl ?_
  refine j_aast (k := 1) (t := 2) (qk := 8) (ci := 1) (r := (RX1, TX1, 5)) (y := [(h, .inr (2, [.ref q1, .ref q2, .int 0, .int 0, .int 0])), (q1, .inl (gGl (kG KK), 6, .inr (.inr (.inr (.inr (va_up (va_up (va_up (va_up (va_up (va_up (fun _ => none) 0 (some q3)) 1 (some q4)) 2 (some q5)) 3 (some q6)) 4 (some q7)) 5 (some q8))))))), (q2, .inr (8, [.int 0, .int 0, .int 0])), (q3, .inr (1, [.int 0, .int 0, .int 0, .int 0, .int 0])), (q4, .inr (1, [.int 0, .int 0, .int 0, .int 0, .int 0])), (q5, .inr (1, [.int 0, .int 0, .int 0, .int 0, .int 0])), (q6, .inr (1, [.int 0, .int 0, .int 0, .int 0, .int 0])), (q7, .inr (1, [.int 0, .int 0, .int 0, .int 0, .int 0])), (q8, .inr (1, [.int 0, .int 0, .int 0, .int 0, .int 0]))]) C 5 dX2_init_47 rfl gty_2 rfl rfl rfl (by decide) (by decide) rfl ?_
  refine j_iinc (lv' := [(1, _), (0, _)]) (v := 6) C dX2_init_48 rfl (by decide) (by decide) rfl ?_
  refine j_goto (tgt := 26) C dX2_init_51 (by decide) ?_
  refine j_iload_n C dX2_init_26 rfl rfl ?_
  refine j_aload_n C dX2_init_27 rfl rfl ?_
  refine j_get (k := 0) C dX2_init_28 jf_RX2_11 rfl rfl ?_
  refine j_alen (k := 1) (v := 6) C dX2_init_31 rfl gty_2 rfl ?_
  refine j_icmp_ge (tgt := 54) C dX2_init_32 (by decide) (fun _ => ?_) (fun c => absurd (by decide) c)
  refine j_widen (ca' := 8) (sl' := 39) (by decide) (by decide) ?_
  exact hret _ _ _ dX2_init_54 ⟨q1, q2, q3, q4, q5, q6, q7, q8, rfl⟩
