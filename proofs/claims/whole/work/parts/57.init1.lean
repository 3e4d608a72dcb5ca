/-! the constructors -/
theorem df_To : ∀ j, j < 12 → ∃ t, (SC.2.1 0)[j]? = some t ∧ defaultValue (t_To j) = sx_cv id (sx_av t 0 none) := by
  intro j hj
  rcases (show j = 0 ∨ j = 1 ∨ j = 2 ∨ j = 3 ∨ j = 4 ∨ j = 5 ∨ j = 6 ∨ j = 7 ∨ j = 8 ∨ j = 9 ∨ j = 10 ∨ j = 11 by omega) with rfl | rfl | rfl | rfl | rfl | rfl | rfl | rfl | rfl | rfl | rfl | rfl <;> exact ⟨_, rfl, rfl⟩
theorem df_Se : ∀ j, j < 14 → ∃ t, (SC.2.1 1)[j]? = some t ∧ defaultValue (t_Se j) = sx_cv id (sx_av t 0 none) := by
  intro j hj
  rcases (show j = 0 ∨ j = 1 ∨ j = 2 ∨ j = 3 ∨ j = 4 ∨ j = 5 ∨ j = 6 ∨ j = 7 ∨ j = 8 ∨ j = 9 ∨ j = 10 ∨ j = 11 ∨ j = 12 ∨ j = 13 by omega) with rfl | rfl | rfl | rfl | rfl | rfl | rfl | rfl | rfl | rfl | rfl | rfl | rfl | rfl <;> exact ⟨_, rfl, rfl⟩
theorem df_He : ∀ j, j < 3 → ∃ t, (SC.2.1 2)[j]? = some t ∧ defaultValue (t_He j) = sx_cv id (sx_av t 0 none) := by
  intro j hj
  rcases (show j = 0 ∨ j = 1 ∨ j = 2 by omega) with rfl | rfl | rfl <;> exact ⟨_, rfl, rfl⟩
theorem df_Un : ∀ j, j < 2 → ∃ t, (SC.2.1 3)[j]? = some t ∧ defaultValue (t_Un j) = sx_cv id (sx_av t 0 none) := by
  intro j hj
  rcases (show j = 0 ∨ j = 1 by omega) with rfl | rfl <;> exact ⟨_, rfl, rfl⟩
theorem df_Ca : ∀ j, j < 4 → ∃ t, (SC.2.1 4)[j]? = some t ∧ defaultValue (t_Ca j) = sx_cv id (sx_av t 0 none) := by
  intro j hj
  rcases (show j = 0 ∨ j = 1 ∨ j = 2 ∨ j = 3 by omega) with rfl | rfl | rfl | rfl <;> exact ⟨_, rfl, rfl⟩
theorem df_Si : ∀ j, j < 6 → ∃ t, (SC.2.1 5)[j]? = some t ∧ defaultValue (t_Si j) = sx_cv id (sx_av t 0 none) := by
  intro j hj
  rcases (show j = 0 ∨ j = 1 ∨ j = 2 ∨ j = 3 ∨ j = 4 ∨ j = 5 by omega) with rfl | rfl | rfl | rfl | rfl | rfl <;> exact ⟨_, rfl, rfl⟩
theorem df_Mo : ∀ j, j < 25 → ∃ t, (SC.2.1 6)[j]? = some t ∧ defaultValue (t_Mo j) = sx_cv id (sx_av t 0 none) := by
  intro j hj
  rcases (show j = 0 ∨ j = 1 ∨ j = 2 ∨ j = 3 ∨ j = 4 ∨ j = 5 ∨ j = 6 ∨ j = 7 ∨ j = 8 ∨ j = 9 ∨ j = 10 ∨ j = 11 ∨ j = 12 ∨ j = 13 ∨ j = 14 ∨ j = 15 ∨ j = 16 ∨ j = 17 ∨ j = 18 ∨ j = 19 ∨ j = 20 ∨ j = 21 ∨ j = 22 ∨ j = 23 ∨ j = 24 by omega) with rfl | rfl | rfl | rfl | rfl | rfl | rfl | rfl | rfl | rfl | rfl | rfl | rfl | rfl | rfl | rfl | rfl | rfl | rfl | rfl | rfl | rfl | rfl | rfl | rfl <;> exact ⟨_, rfl, rfl⟩
set_option maxRecDepth 100000 in
set_option maxHeartbeats 4000000 in
theorem ct_To_init (l : Launch) (D : va_G) (tc : Nat → ClassId) : sx_Met SC l D tc y_To_init w_To_init (rmc 1 15 78 40) [sx_A (1)] (gW 2 0 1 0) mZ (fun r G' M' => r = none ∧ G' = gW 17 0 1 12 ∧ M' = mT) := by
  refine sx_enter (by decide) rfl (Nat.le_of_ble_eq_true rfl) (Ts := g_tbl) (fun _ h => List.mem_cons_of_mem _ h) (fun E C Rr hnm hnL => ?_)
  show sx_X SC E (0, 0) (gW 2 0 1 0) mZ 0 [(0, sx_A (1))] []
  refine sx_aload_n C 0 d_To_init_0 rfl rfl ?_
  refine sx_objInit C (tb_ 25 (by decide +kernel) rfl) (tb_ 18 (by decide +kernel) rfl) (tb_ 19 rfl rfl) d_To_init_1 (by rw [Rr.2.2]; decide) (by rw [Rr.2.2]; decide) ?_
  refine sx_aload_n C 0 d_To_init_4 rfl rfl ?_
  refine sx_iconst C d_To_init_5 ?_
  refine sx_puti C p_To_9 (by decide) rfl d_To_init_6 ?_
  rw [up_0 (show mZ 1 0 = 0 from rfl)]
  show sx_X SC E (0, 0) (gW 2 0 1 0) mZ 9 [(0, sx_A (1))] []
  refine sx_aload_n C 0 d_To_init_9 rfl rfl ?_
  refine sx_iconst C d_To_init_10 ?_
  refine sx_puti C p_To_15 (by decide) rfl d_To_init_11 ?_
  rw [up_0 (show mZ 1 1 = 0 from rfl)]
  show sx_X SC E (0, 0) (gW 2 0 1 0) mZ 14 [(0, sx_A (1))] []
  refine sx_aload_n C 0 d_To_init_14 rfl rfl ?_
  refine sx_ldc2 (v := (10000000)) C (10000000) (tb_ 26 (by decide +kernel) rfl) (by decide) d_To_init_15 ?_
  refine sx_putl C p_To_20 (by decide) rfl d_To_init_18 ?_
  show sx_X SC E (0, 0) (gW 2 0 1 0) mT 21 [(0, sx_A (1))] []
  refine sx_aload_n C 0 d_To_init_21 rfl rfl ?_
  refine sx_bipush C d_To_init_22 (by decide) ?_
  refine sx_newa (a := 2) (N := 6) C rfl rfl (Or.inr (Or.inl rfl)) (tb_ 86 (by decide +kernel) rfl) rfl (by decide) (by rw [Rr.2.2]; decide) (by rw [Rr.2.2]; decide) d_To_init_24 (cl_of (by decide +kernel)) (n := 2) (Nat.le_refl _) rfl rfl ?_
  refine gi_arr rfl (mT_0 (by decide)) (by decide) ?_
  show sx_X SC E (1, 6) (gW 3 0 1 0) mT 26 [(0, sx_A (1))] [sx_A (2), sx_A (1)]
  refine sx_putFr C hnm p_To_24 (Or.inr ⟨_, rfl⟩) (by decide) rfl d_To_init_26 ?_
  refine gi_put (by decide) rfl (by decide) (by decide) (by decide) ?_
  show sx_X SC E (1, 6) (gW 3 0 1 4) mT 29 [(0, sx_A (1))] []
  refine sx_aload_n C 0 d_To_init_29 rfl rfl ?_
  refine sx_bipush C d_To_init_30 (by decide) ?_
  refine sx_newa (a := 2) (N := 6) C rfl rfl (Or.inr (Or.inl rfl)) (tb_ 86 (by decide +kernel) rfl) rfl (by decide) (by rw [Rr.2.2]; decide) (by rw [Rr.2.2]; decide) d_To_init_32 (cl_of (by decide +kernel)) (n := 3) (Nat.le_refl _) rfl rfl ?_
  refine gi_arr rfl (mT_0 (by decide)) (by decide) ?_
  show sx_X SC E (2, 12) (gW 4 0 1 4) mT 34 [(0, sx_A (1))] [sx_A (3), sx_A (1)]
  refine sx_putFr C hnm p_To_28 (Or.inr ⟨_, rfl⟩) (by decide) rfl d_To_init_34 ?_
  refine gi_put (by decide) rfl (by decide) (by decide) (by decide) ?_
  show sx_X SC E (2, 12) (gW 4 0 1 5) mT 37 [(0, sx_A (1))] []
  refine sx_aload_n C 0 d_To_init_37 rfl rfl ?_
  refine sx_bipush C d_To_init_38 (by decide) ?_
  refine sx_iconst C d_To_init_40 ?_
  refine sx_mna (a := 3) (b := 2) (N := 6) (K := 5) C rfl rfl (tb_ 27 (by decide +kernel) rfl) (tb_ 86 (by decide +kernel) rfl) rfl rfl (by decide) (by decide) (by rw [Rr.2.2]; decide) (by rw [Rr.2.2]; decide) d_To_init_41 (cl_of (by decide +kernel)) (n := 4) (Nat.le_refl _) rfl rfl ?_
  refine gi_grid rfl (by decide) (by decide) (by decide) (by decide) (by decide) (fun j hj => (mT_0 (by omega))) ?_
  show sx_X SC E (9, 48) (gW 11 0 1 5) mT 45 [(0, sx_A (1))] [sx_A (4), sx_A (1)]
  refine sx_putFr C hnm p_To_33 (Or.inr ⟨_, rfl⟩) (by decide) rfl d_To_init_45 ?_
  refine gi_put (by decide) rfl (by decide) (by decide) (by decide) ?_
  show sx_X SC E (9, 48) (gW 11 0 1 6) mT 48 [(0, sx_A (1))] []
  refine sx_aload_n C 0 d_To_init_48 rfl rfl ?_
  refine sx_iconst C d_To_init_49 ?_
  refine sx_newa (a := 2) (N := 5) C rfl rfl (Or.inr (Or.inl rfl)) (tb_ 86 (by decide +kernel) rfl) rfl (by decide) (by rw [Rr.2.2]; decide) (by rw [Rr.2.2]; decide) d_To_init_50 (cl_of (by decide +kernel)) (n := 11) (Nat.le_refl _) rfl rfl ?_
  refine gi_arr rfl (mT_0 (by decide)) (by decide) ?_
  show sx_X SC E (10, 53) (gW 12 0 1 6) mT 52 [(0, sx_A (1))] [sx_A (11), sx_A (1)]
  refine sx_putFr C hnm p_To_36 (Or.inr ⟨_, rfl⟩) (by decide) rfl d_To_init_52 ?_
  refine gi_put (by decide) rfl (by decide) (by decide) (by decide) ?_
  show sx_X SC E (10, 53) (gW 12 0 1 7) mT 55 [(0, sx_A (1))] []
  refine sx_aload_n C 0 d_To_init_55 rfl rfl ?_
  refine sx_iconst C d_To_init_56 ?_
  refine sx_newa (a := 2) (N := 5) C rfl rfl (Or.inr (Or.inl rfl)) (tb_ 86 (by decide +kernel) rfl) rfl (by decide) (by rw [Rr.2.2]; decide) (by rw [Rr.2.2]; decide) d_To_init_57 (cl_of (by decide +kernel)) (n := 12) (Nat.le_refl _) rfl rfl ?_
  refine gi_arr rfl (mT_0 (by decide)) (by decide) ?_
  show sx_X SC E (11, 58) (gW 13 0 1 7) mT 59 [(0, sx_A (1))] [sx_A (12), sx_A (1)]
  refine sx_putFr C hnm p_To_39 (Or.inr ⟨_, rfl⟩) (by decide) rfl d_To_init_59 ?_
  refine gi_put (by decide) rfl (by decide) (by decide) (by decide) ?_
  show sx_X SC E (11, 58) (gW 13 0 1 8) mT 62 [(0, sx_A (1))] []
  refine sx_aload_n C 0 d_To_init_62 rfl rfl ?_
  refine sx_iconst C d_To_init_63 ?_
  refine sx_newa (a := 2) (N := 5) C rfl rfl (Or.inr (Or.inl rfl)) (tb_ 86 (by decide +kernel) rfl) rfl (by decide) (by rw [Rr.2.2]; decide) (by rw [Rr.2.2]; decide) d_To_init_64 (cl_of (by decide +kernel)) (n := 13) (Nat.le_refl _) rfl rfl ?_
  refine gi_arr rfl (mT_0 (by decide)) (by decide) ?_
  show sx_X SC E (12, 63) (gW 14 0 1 8) mT 66 [(0, sx_A (1))] [sx_A (13), sx_A (1)]
  refine sx_putFr C hnm p_To_42 (Or.inr ⟨_, rfl⟩) (by decide) rfl d_To_init_66 ?_
  refine gi_put (by decide) rfl (by decide) (by decide) (by decide) ?_
  show sx_X SC E (12, 63) (gW 14 0 1 9) mT 69 [(0, sx_A (1))] []
  refine sx_aload_n C 0 d_To_init_69 rfl rfl ?_
  refine sx_iconst C d_To_init_70 ?_
  refine sx_newa (a := 2) (N := 5) C rfl rfl (Or.inr (Or.inl rfl)) (tb_ 86 (by decide +kernel) rfl) rfl (by decide) (by rw [Rr.2.2]; decide) (by rw [Rr.2.2]; decide) d_To_init_71 (cl_of (by decide +kernel)) (n := 14) (Nat.le_refl _) rfl rfl ?_
  refine gi_arr rfl (mT_0 (by decide)) (by decide) ?_
  show sx_X SC E (13, 68) (gW 15 0 1 9) mT 73 [(0, sx_A (1))] [sx_A (14), sx_A (1)]
  refine sx_putFr C hnm p_To_45 (Or.inr ⟨_, rfl⟩) (by decide) rfl d_To_init_73 ?_
  refine gi_put (by decide) rfl (by decide) (by decide) (by decide) ?_
  show sx_X SC E (13, 68) (gW 15 0 1 10) mT 76 [(0, sx_A (1))] []
  refine sx_aload_n C 0 d_To_init_76 rfl rfl ?_
  refine sx_iconst C d_To_init_77 ?_
  refine sx_newa (a := 2) (N := 5) C rfl rfl (Or.inr (Or.inl rfl)) (tb_ 86 (by decide +kernel) rfl) rfl (by decide) (by rw [Rr.2.2]; decide) (by rw [Rr.2.2]; decide) d_To_init_78 (cl_of (by decide +kernel)) (n := 15) (Nat.le_refl _) rfl rfl ?_
  refine gi_arr rfl (mT_0 (by decide)) (by decide) ?_
  show sx_X SC E (14, 73) (gW 16 0 1 10) mT 80 [(0, sx_A (1))] [sx_A (15), sx_A (1)]
  refine sx_putFr C hnm p_To_48 (Or.inr ⟨_, rfl⟩) (by decide) rfl d_To_init_80 ?_
  refine gi_put (by decide) rfl (by decide) (by decide) (by decide) ?_
  show sx_X SC E (14, 73) (gW 16 0 1 11) mT 83 [(0, sx_A (1))] []
  refine sx_aload_n C 0 d_To_init_83 rfl rfl ?_
  refine sx_iconst C d_To_init_84 ?_
  refine sx_newa (a := 1) (N := 5) C rfl rfl (Or.inr (Or.inr rfl)) (tb_ 87 (by decide +kernel) rfl) rfl (by decide) (by rw [Rr.2.2]; decide) (by rw [Rr.2.2]; decide) d_To_init_85 (cl_of (by decide +kernel)) (n := 16) (Nat.le_refl _) rfl rfl ?_
  refine gi_arr rfl (mT_0 (by decide)) (by decide) ?_
  show sx_X SC E (15, 78) (gW 17 0 1 11) mT 87 [(0, sx_A (1))] [sx_A (16), sx_A (1)]
  refine sx_putFr C hnm p_To_51 (Or.inr ⟨_, rfl⟩) (by decide) rfl d_To_init_87 ?_
  refine gi_put (by decide) rfl (by decide) (by decide) (by decide) ?_
  show sx_X SC E (15, 78) (gW 17 0 1 12) mT 90 [(0, sx_A (1))] []
  refine sx_return C Rr rfl d_To_init_90 ?_
  exact ⟨rfl, rfl, rfl⟩
set_option maxRecDepth 100000 in
set_option maxHeartbeats 4000000 in
theorem ct_Se_init (l : Launch) (D : va_G) (tc : Nat → ClassId) : sx_Met SC l D tc y_Se_init w_Se_init (rmc 1 15 135 40) [sx_A (17)] (gW 18 1 17 0) mT (fun r G' M' => r = none ∧ G' = gW 33 1 17 11 ∧ M' = mS) := by
  refine sx_enter (by decide) rfl (Nat.le_of_ble_eq_true rfl) (Ts := g_tbl) (fun _ h => List.mem_cons_of_mem _ h) (fun E C Rr hnm hnL => ?_)
  show sx_X SC E (0, 0) (gW 18 1 17 0) mT 0 [(0, sx_A (17))] []
  refine sx_aload_n C 0 d_Se_init_0 rfl rfl ?_
  refine sx_objInit C (tb_ 93 (by decide +kernel) rfl) (tb_ 18 (by decide +kernel) rfl) (tb_ 19 rfl rfl) d_Se_init_1 (by rw [Rr.2.2]; decide) (by rw [Rr.2.2]; decide) ?_
  refine sx_aload_n C 0 d_Se_init_4 rfl rfl ?_
  refine sx_iconst C d_Se_init_5 ?_
  refine sx_puti C p_Se_9 (by decide) rfl d_Se_init_6 ?_
  rw [up_0 (show mT 17 0 = 0 from rfl)]
  show sx_X SC E (0, 0) (gW 18 1 17 0) mT 9 [(0, sx_A (17))] []
  refine sx_aload_n C 0 d_Se_init_9 rfl rfl ?_
  refine sx_iconst C d_Se_init_10 ?_
  refine sx_puti C p_Se_15 (by decide) rfl d_Se_init_11 ?_
  rw [up_0 (show mT 17 1 = 0 from rfl)]
  show sx_X SC E (0, 0) (gW 18 1 17 0) mT 14 [(0, sx_A (17))] []
  refine sx_aload_n C 0 d_Se_init_14 rfl rfl ?_
  refine sx_bipush C d_Se_init_15 (by decide) ?_
  refine sx_newa (a := 2) (N := 6) C rfl rfl (Or.inr (Or.inl rfl)) (tb_ 86 (by decide +kernel) rfl) rfl (by decide) (by rw [Rr.2.2]; decide) (by rw [Rr.2.2]; decide) d_Se_init_17 (cl_of (by decide +kernel)) (n := 18) (Nat.le_refl _) rfl rfl ?_
  refine gi_arr rfl (mT_0 (by decide)) (by decide) ?_
  show sx_X SC E (1, 6) (gW 19 1 17 0) mT 19 [(0, sx_A (17))] [sx_A (18), sx_A (17)]
  refine sx_putFr C hnm p_Se_18 (Or.inr ⟨_, rfl⟩) (by decide) rfl d_Se_init_19 ?_
  refine gi_put (by decide) rfl (by decide) (by decide) (by decide) ?_
  show sx_X SC E (1, 6) (gW 19 1 17 3) mT 22 [(0, sx_A (17))] []
  refine sx_aload_n C 0 d_Se_init_22 rfl rfl ?_
  refine sx_iconst C d_Se_init_23 ?_
  refine sx_newa (a := 2) (N := 5) C rfl rfl (Or.inr (Or.inl rfl)) (tb_ 86 (by decide +kernel) rfl) rfl (by decide) (by rw [Rr.2.2]; decide) (by rw [Rr.2.2]; decide) d_Se_init_24 (cl_of (by decide +kernel)) (n := 19) (Nat.le_refl _) rfl rfl ?_
  refine gi_arr rfl (mT_0 (by decide)) (by decide) ?_
  show sx_X SC E (2, 11) (gW 20 1 17 3) mT 26 [(0, sx_A (17))] [sx_A (19), sx_A (17)]
  refine sx_putFr C hnm p_Se_22 (Or.inr ⟨_, rfl⟩) (by decide) rfl d_Se_init_26 ?_
  refine gi_put (by decide) rfl (by decide) (by decide) (by decide) ?_
  show sx_X SC E (2, 11) (gW 20 1 17 4) mT 29 [(0, sx_A (17))] []
  refine sx_aload_n C 0 d_Se_init_29 rfl rfl ?_
  refine sx_bipush C d_Se_init_30 (by decide) ?_
  refine sx_iconst C d_Se_init_32 ?_
  refine sx_mna (a := 3) (b := 2) (N := 6) (K := 5) C rfl rfl (tb_ 94 (by decide +kernel) rfl) (tb_ 86 (by decide +kernel) rfl) rfl rfl (by decide) (by decide) (by rw [Rr.2.2]; decide) (by rw [Rr.2.2]; decide) d_Se_init_33 (cl_of (by decide +kernel)) (n := 20) (Nat.le_refl _) rfl rfl ?_
  refine gi_grid rfl (by decide) (by decide) (by decide) (by decide) (by decide) (fun j hj => (mT_0 (by omega))) ?_
  show sx_X SC E (9, 47) (gW 27 1 17 4) mT 37 [(0, sx_A (17))] [sx_A (20), sx_A (17)]
  refine sx_putFr C hnm p_Se_27 (Or.inr ⟨_, rfl⟩) (by decide) rfl d_Se_init_37 ?_
  refine gi_put (by decide) rfl (by decide) (by decide) (by decide) ?_
  show sx_X SC E (9, 47) (gW 27 1 17 5) mT 40 [(0, sx_A (17))] []
  refine sx_aload_n C 0 d_Se_init_40 rfl rfl ?_
  refine sx_bipush C d_Se_init_41 (by decide) ?_
  refine sx_newa (a := 1) (N := 32) C rfl rfl (Or.inr (Or.inr rfl)) (tb_ 87 (by decide +kernel) rfl) rfl (by decide) (by rw [Rr.2.2]; decide) (by rw [Rr.2.2]; decide) d_Se_init_43 (cl_of (by decide +kernel)) (n := 27) (Nat.le_refl _) rfl rfl ?_
  refine gi_arr rfl (mT_0 (by decide)) (by decide) ?_
  show sx_X SC E (10, 79) (gW 28 1 17 5) mT 45 [(0, sx_A (17))] [sx_A (27), sx_A (17)]
  refine sx_putFr C hnm p_Se_30 (Or.inr ⟨_, rfl⟩) (by decide) rfl d_Se_init_45 ?_
  refine gi_put (by decide) rfl (by decide) (by decide) (by decide) ?_
  show sx_X SC E (10, 79) (gW 28 1 17 6) mT 48 [(0, sx_A (17))] []
  refine sx_aload_n C 0 d_Se_init_48 rfl rfl ?_
  refine sx_bipush C d_Se_init_49 (by decide) ?_
  refine sx_newa (a := 2) (N := 32) C rfl rfl (Or.inr (Or.inl rfl)) (tb_ 86 (by decide +kernel) rfl) rfl (by decide) (by rw [Rr.2.2]; decide) (by rw [Rr.2.2]; decide) d_Se_init_51 (cl_of (by decide +kernel)) (n := 28) (Nat.le_refl _) rfl rfl ?_
  refine gi_arr rfl (mT_0 (by decide)) (by decide) ?_
  show sx_X SC E (11, 111) (gW 29 1 17 6) mT 53 [(0, sx_A (17))] [sx_A (28), sx_A (17)]
  refine sx_putFr C hnm p_Se_34 (Or.inr ⟨_, rfl⟩) (by decide) rfl d_Se_init_53 ?_
  refine gi_put (by decide) rfl (by decide) (by decide) (by decide) ?_
  show sx_X SC E (11, 111) (gW 29 1 17 7) mT 56 [(0, sx_A (17))] []
  refine sx_aload_n C 0 d_Se_init_56 rfl rfl ?_
  refine sx_bipush C d_Se_init_57 (by decide) ?_
  refine sx_newa (a := 2) (N := 7) C rfl rfl (Or.inr (Or.inl rfl)) (tb_ 86 (by decide +kernel) rfl) rfl (by decide) (by rw [Rr.2.2]; decide) (by rw [Rr.2.2]; decide) d_Se_init_59 (cl_of (by decide +kernel)) (n := 29) (Nat.le_refl _) rfl rfl ?_
  refine gi_arr rfl (mT_0 (by decide)) (by decide) ?_
  show sx_X SC E (12, 118) (gW 30 1 17 7) mT 61 [(0, sx_A (17))] [sx_A (29), sx_A (17)]
  refine sx_putFr C hnm p_Se_37 (Or.inr ⟨_, rfl⟩) (by decide) rfl d_Se_init_61 ?_
  refine gi_put (by decide) rfl (by decide) (by decide) (by decide) ?_
  show sx_X SC E (12, 118) (gW 30 1 17 8) mT 64 [(0, sx_A (17))] []
  refine sx_aload_n C 0 d_Se_init_64 rfl rfl ?_
  refine sx_iconst C d_Se_init_65 ?_
  refine sx_newa (a := 2) (N := 5) C rfl rfl (Or.inr (Or.inl rfl)) (tb_ 86 (by decide +kernel) rfl) rfl (by decide) (by rw [Rr.2.2]; decide) (by rw [Rr.2.2]; decide) d_Se_init_66 (cl_of (by decide +kernel)) (n := 30) (Nat.le_refl _) rfl rfl ?_
  refine gi_arr rfl (mT_0 (by decide)) (by decide) ?_
  show sx_X SC E (13, 123) (gW 31 1 17 8) mT 68 [(0, sx_A (17))] [sx_A (30), sx_A (17)]
  refine sx_putFr C hnm p_Se_40 (Or.inr ⟨_, rfl⟩) (by decide) rfl d_Se_init_68 ?_
  refine gi_put (by decide) rfl (by decide) (by decide) (by decide) ?_
  show sx_X SC E (13, 123) (gW 31 1 17 9) mT 71 [(0, sx_A (17))] []
  refine sx_aload_n C 0 d_Se_init_71 rfl rfl ?_
  refine sx_bipush C d_Se_init_72 (by decide) ?_
  refine sx_newa (a := 0) (N := 6) C rfl rfl (Or.inl rfl) (tb_ 142 (by decide +kernel) rfl) rfl (by decide) (by rw [Rr.2.2]; decide) (by rw [Rr.2.2]; decide) d_Se_init_74 (cl_of (by decide +kernel)) (n := 31) (Nat.le_refl _) rfl rfl ?_
  refine gi_arr rfl (mT_0 (by decide)) (by decide) ?_
  show sx_X SC E (14, 129) (gW 32 1 17 9) mT 76 [(0, sx_A (17))] [sx_A (31), sx_A (17)]
  refine sx_putFr C hnm p_Se_43 (Or.inr ⟨_, rfl⟩) (by decide) rfl d_Se_init_76 ?_
  refine gi_put (by decide) rfl (by decide) (by decide) (by decide) ?_
  show sx_X SC E (14, 129) (gW 32 1 17 10) mT 79 [(0, sx_A (17))] []
  refine sx_aload_n C 0 d_Se_init_79 rfl rfl ?_
  refine sx_bipush C d_Se_init_80 (by decide) ?_
  refine sx_newa (a := 0) (N := 6) C rfl rfl (Or.inl rfl) (tb_ 142 (by decide +kernel) rfl) rfl (by decide) (by rw [Rr.2.2]; decide) (by rw [Rr.2.2]; decide) d_Se_init_82 (cl_of (by decide +kernel)) (n := 32) (Nat.le_refl _) rfl rfl ?_
  refine gi_arr rfl (mT_0 (by decide)) (by decide) ?_
  show sx_X SC E (15, 135) (gW 33 1 17 10) mT 84 [(0, sx_A (17))] [sx_A (32), sx_A (17)]
  refine sx_putFr C hnm p_Se_47 (Or.inr ⟨_, rfl⟩) (by decide) rfl d_Se_init_84 ?_
  refine gi_put (by decide) rfl (by decide) (by decide) (by decide) ?_
  show sx_X SC E (15, 135) (gW 33 1 17 11) mT 87 [(0, sx_A (17))] []
  refine sx_aload_n C 0 d_Se_init_87 rfl rfl ?_
  refine sx_ldc2 (v := (-1)) C (-1) (tb_ 95 (by decide +kernel) rfl) (by decide) d_Se_init_88 ?_
  refine sx_putl C p_Se_52 (by decide) rfl d_Se_init_91 ?_
  show sx_X SC E (15, 135) (gW 33 1 17 11) mS 94 [(0, sx_A (17))] []
  refine sx_aload_n C 0 d_Se_init_94 rfl rfl ?_
  refine sx_iconst C d_Se_init_95 ?_
  refine sx_puti C p_Se_56 (by decide) rfl d_Se_init_96 ?_
  rw [up_0 (show mS 17 12 = 0 from rfl)]
  show sx_X SC E (15, 135) (gW 33 1 17 11) mS 99 [(0, sx_A (17))] []
  refine sx_aload_n C 0 d_Se_init_99 rfl rfl ?_
  refine sx_iconst C d_Se_init_100 ?_
  refine sx_putz C p_Se_59 (by omega) (by decide) rfl d_Se_init_101 ?_
  rw [up_0 (show mS 17 13 = 0 from rfl)]
  show sx_X SC E (15, 135) (gW 33 1 17 11) mS 104 [(0, sx_A (17))] []
  refine sx_return C Rr rfl d_Se_init_104 ?_
  exact ⟨rfl, rfl, rfl⟩
set_option maxRecDepth 100000 in
set_option maxHeartbeats 4000000 in
theorem ct_He_init (l : Launch) (D : va_G) (tc : Nat → ClassId) : sx_Met SC l D tc y_He_init w_He_init (rmc 1 1 6 40) [sx_A (33)] (gW 34 2 33 0) mS (fun r G' M' => r = none ∧ G' = gW 35 2 33 3 ∧ M' = mS) := by
  refine sx_enter (by decide) rfl (Nat.le_of_ble_eq_true rfl) (Ts := g_tbl) (fun _ h => List.mem_cons_of_mem _ h) (fun E C Rr hnm hnL => ?_)
  show sx_X SC E (0, 0) (gW 34 2 33 0) mS 0 [(0, sx_A (33))] []
  refine sx_aload_n C 0 d_He_init_0 rfl rfl ?_
  refine sx_objInit C (tb_ 148 (by decide +kernel) rfl) (tb_ 18 (by decide +kernel) rfl) (tb_ 19 rfl rfl) d_He_init_1 (by rw [Rr.2.2]; decide) (by rw [Rr.2.2]; decide) ?_
  refine sx_aload_n C 0 d_He_init_4 rfl rfl ?_
  refine sx_iconst C d_He_init_5 ?_
  refine sx_putz C p_He_9 (by omega) (by decide) rfl d_He_init_6 ?_
  rw [up_0 (show mS 33 0 = 0 from rfl)]
  show sx_X SC E (0, 0) (gW 34 2 33 0) mS 9 [(0, sx_A (33))] []
  refine sx_aload_n C 0 d_He_init_9 rfl rfl ?_
  refine sx_lconst C 0 rfl d_He_init_10 ?_
  refine sx_putl C p_He_15 (by decide) rfl d_He_init_11 ?_
  rw [up_0 (show mS 33 1 = 0 from rfl)]
  show sx_X SC E (0, 0) (gW 34 2 33 0) mS 14 [(0, sx_A (33))] []
  refine sx_aload_n C 0 d_He_init_14 rfl rfl ?_
  refine sx_bipush C d_He_init_15 (by decide) ?_
  refine sx_newa (a := 0) (N := 6) C rfl rfl (Or.inl rfl) (tb_ 142 (by decide +kernel) rfl) rfl (by decide) (by rw [Rr.2.2]; decide) (by rw [Rr.2.2]; decide) d_He_init_17 (cl_of (by decide +kernel)) (n := 34) (Nat.le_refl _) rfl rfl ?_
  refine gi_arr rfl (mS_0 (by decide) (by decide)) (by decide) ?_
  show sx_X SC E (1, 6) (gW 35 2 33 0) mS 19 [(0, sx_A (33))] [sx_A (34), sx_A (33)]
  refine sx_putFr C hnm p_He_19 (Or.inr ⟨_, rfl⟩) (by decide) rfl d_He_init_19 ?_
  refine gi_put (by decide) rfl (by decide) (by decide) (by decide) ?_
  show sx_X SC E (1, 6) (gW 35 2 33 3) mS 22 [(0, sx_A (33))] []
  refine sx_return C Rr rfl d_He_init_22 ?_
  exact ⟨rfl, rfl, rfl⟩
set_option maxRecDepth 100000 in
set_option maxHeartbeats 4000000 in
theorem ct_Un_init (l : Launch) (D : va_G) (tc : Nat → ClassId) : sx_Met SC l D tc y_Un_init w_Un_init (rmc 1 1 6 40) [sx_A (35)] (gW 36 3 35 0) mS (fun r G' M' => r = none ∧ G' = gW 37 3 35 2 ∧ M' = mS) := by
  refine sx_enter (by decide) rfl (Nat.le_of_ble_eq_true rfl) (Ts := g_tbl) (fun _ h => List.mem_cons_of_mem _ h) (fun E C Rr hnm hnL => ?_)
  show sx_X SC E (0, 0) (gW 36 3 35 0) mS 0 [(0, sx_A (35))] []
  refine sx_aload_n C 0 d_Un_init_0 rfl rfl ?_
  refine sx_objInit C (tb_ 166 (by decide +kernel) rfl) (tb_ 18 (by decide +kernel) rfl) (tb_ 19 rfl rfl) d_Un_init_1 (by rw [Rr.2.2]; decide) (by rw [Rr.2.2]; decide) ?_
  refine sx_aload_n C 0 d_Un_init_4 rfl rfl ?_
  refine sx_iconst C d_Un_init_5 ?_
  refine sx_puti C p_Un_9 (by decide) rfl d_Un_init_6 ?_
  rw [up_0 (show mS 35 0 = 0 from rfl)]
  show sx_X SC E (0, 0) (gW 36 3 35 0) mS 9 [(0, sx_A (35))] []
  refine sx_aload_n C 0 d_Un_init_9 rfl rfl ?_
  refine sx_bipush C d_Un_init_10 (by decide) ?_
  refine sx_newa (a := 0) (N := 6) C rfl rfl (Or.inl rfl) (tb_ 142 (by decide +kernel) rfl) rfl (by decide) (by rw [Rr.2.2]; decide) (by rw [Rr.2.2]; decide) d_Un_init_12 (cl_of (by decide +kernel)) (n := 36) (Nat.le_refl _) rfl rfl ?_
  refine gi_arr rfl (mS_0 (by decide) (by decide)) (by decide) ?_
  show sx_X SC E (1, 6) (gW 37 3 35 0) mS 14 [(0, sx_A (35))] [sx_A (36), sx_A (35)]
  refine sx_putFr C hnm p_Un_15 (Or.inr ⟨_, rfl⟩) (by decide) rfl d_Un_init_14 ?_
  refine gi_put (by decide) rfl (by decide) (by decide) (by decide) ?_
  show sx_X SC E (1, 6) (gW 37 3 35 2) mS 17 [(0, sx_A (35))] []
  refine sx_return C Rr rfl d_Un_init_17 ?_
  exact ⟨rfl, rfl, rfl⟩
set_option maxRecDepth 100000 in
set_option maxHeartbeats 4000000 in
theorem ct_Ca_init (l : Launch) (D : va_G) (tc : Nat → ClassId) : sx_Met SC l D tc y_Ca_init w_Ca_init (rmc 1 15 402 40) [sx_A (37)] (gW 38 4 37 0) mS (fun r G' M' => r = none ∧ G' = gW 53 4 37 4 ∧ M' = mS) := by
  refine sx_enter (by decide) rfl (Nat.le_of_ble_eq_true rfl) (Ts := g_tbl) (fun _ h => List.mem_cons_of_mem _ h) (fun E C Rr hnm hnL => ?_)
  show sx_X SC E (0, 0) (gW 38 4 37 0) mS 0 [(0, sx_A (37))] []
  refine sx_aload_n C 0 d_Ca_init_0 rfl rfl ?_
  refine sx_objInit C (tb_ 179 (by decide +kernel) rfl) (tb_ 18 (by decide +kernel) rfl) (tb_ 19 rfl rfl) d_Ca_init_1 (by rw [Rr.2.2]; decide) (by rw [Rr.2.2]; decide) ?_
  refine sx_aload_n C 0 d_Ca_init_4 rfl rfl ?_
  refine sx_iconst C d_Ca_init_5 ?_
  refine sx_puti C p_Ca_9 (by decide) rfl d_Ca_init_6 ?_
  rw [up_0 (show mS 37 0 = 0 from rfl)]
  show sx_X SC E (0, 0) (gW 38 4 37 0) mS 9 [(0, sx_A (37))] []
  refine sx_aload_n C 0 d_Ca_init_9 rfl rfl ?_
  refine sx_bipush C d_Ca_init_10 (by decide) ?_
  refine sx_newa (a := 0) (N := 6) C rfl rfl (Or.inl rfl) (tb_ 142 (by decide +kernel) rfl) rfl (by decide) (by rw [Rr.2.2]; decide) (by rw [Rr.2.2]; decide) d_Ca_init_12 (cl_of (by decide +kernel)) (n := 38) (Nat.le_refl _) rfl rfl ?_
  refine gi_arr rfl (mS_0 (by decide) (by decide)) (by decide) ?_
  show sx_X SC E (1, 6) (gW 39 4 37 0) mS 14 [(0, sx_A (37))] [sx_A (38), sx_A (37)]
  refine sx_putFr C hnm p_Ca_15 (Or.inr ⟨_, rfl⟩) (by decide) rfl d_Ca_init_14 ?_
  refine gi_put (by decide) rfl (by decide) (by decide) (by decide) ?_
  show sx_X SC E (1, 6) (gW 39 4 37 2) mS 17 [(0, sx_A (37))] []
  refine sx_aload_n C 0 d_Ca_init_17 rfl rfl ?_
  refine sx_bipush C d_Ca_init_18 (by decide) ?_
  refine sx_bipush C d_Ca_init_20 (by decide) ?_
  refine sx_mna (a := 3) (b := 2) (N := 6) (K := 32) C rfl rfl (tb_ 180 (by decide +kernel) rfl) (tb_ 86 (by decide +kernel) rfl) rfl rfl (by decide) (by decide) (by rw [Rr.2.2]; decide) (by rw [Rr.2.2]; decide) d_Ca_init_22 (cl_of (by decide +kernel)) (n := 39) (Nat.le_refl _) rfl rfl ?_
  refine gi_grid rfl (by decide) (by decide) (by decide) (by decide) (by decide) (fun j hj => (mS_0 (by omega) (by omega))) ?_
  show sx_X SC E (8, 204) (gW 46 4 37 2) mS 26 [(0, sx_A (37))] [sx_A (39), sx_A (37)]
  refine sx_putFr C hnm p_Ca_21 (Or.inr ⟨_, rfl⟩) (by decide) rfl d_Ca_init_26 ?_
  refine gi_put (by decide) rfl (by decide) (by decide) (by decide) ?_
  show sx_X SC E (8, 204) (gW 46 4 37 3) mS 29 [(0, sx_A (37))] []
  refine sx_aload_n C 0 d_Ca_init_29 rfl rfl ?_
  refine sx_bipush C d_Ca_init_30 (by decide) ?_
  refine sx_bipush C d_Ca_init_32 (by decide) ?_
  refine sx_mna (a := 3) (b := 2) (N := 6) (K := 32) C rfl rfl (tb_ 180 (by decide +kernel) rfl) (tb_ 86 (by decide +kernel) rfl) rfl rfl (by decide) (by decide) (by rw [Rr.2.2]; decide) (by rw [Rr.2.2]; decide) d_Ca_init_34 (cl_of (by decide +kernel)) (n := 46) (Nat.le_refl _) rfl rfl ?_
  refine gi_grid rfl (by decide) (by decide) (by decide) (by decide) (by decide) (fun j hj => (mS_0 (by omega) (by omega))) ?_
  show sx_X SC E (15, 402) (gW 53 4 37 3) mS 38 [(0, sx_A (37))] [sx_A (46), sx_A (37)]
  refine sx_putFr C hnm p_Ca_24 (Or.inr ⟨_, rfl⟩) (by decide) rfl d_Ca_init_38 ?_
  refine gi_put (by decide) rfl (by decide) (by decide) (by decide) ?_
  show sx_X SC E (15, 402) (gW 53 4 37 4) mS 41 [(0, sx_A (37))] []
  refine sx_return C Rr rfl d_Ca_init_41 ?_
  exact ⟨rfl, rfl, rfl⟩
set_option maxRecDepth 100000 in
set_option maxHeartbeats 4000000 in
theorem ct_Si_init (l : Launch) (D : va_G) (tc : Nat → ClassId) : sx_Met SC l D tc y_Si_init w_Si_init (rmc 2 52 662 80) [sx_A (0)] (gW 1 0 99 0) mZ (fun r G' M' => r = none ∧ G' = gW 53 5 37 4 ∧ M' = mS) := by
  refine sx_enter (by decide) rfl (Nat.le_of_ble_eq_true rfl) (Ts := g_tbl) (fun _ h => List.mem_cons_of_mem _ h) (fun E C Rr hnm hnL => ?_)
  show sx_X SC E (0, 0) (gW 1 0 99 0) mZ 0 [(0, sx_A (0))] []
  refine sx_aload_n C 0 d_Si_init_0 rfl rfl ?_
  refine sx_objInit C (tb_ 17 (by decide +kernel) rfl) (tb_ 18 (by decide +kernel) rfl) (tb_ 19 rfl rfl) d_Si_init_1 (by rw [Rr.2.2]; decide) (by rw [Rr.2.2]; decide) ?_
  refine sx_aload_n C 0 d_Si_init_4 rfl rfl ?_
  refine sx_new (ci := 0) C rfl la_To t_To ty_To (tb_ 20 (by decide +kernel) rfl) (tb_ 21 (by decide +kernel) rfl) (tb_ 2 (by decide +kernel) rfl) df_To (by rw [Rr.2.2]; decide) (by rw [Rr.2.2]; decide) d_Si_init_5 (cl_of (by decide +kernel)) (n := 1) (Nat.le_refl _) rfl rfl ?_
  refine gi_new rfl rfl (by decide) ?_
  show sx_X SC E (1, 12) (gW 2 0 1 0) mZ 8 [(0, sx_A (0))] [sx_A (1), sx_A (0)]
  refine sx_dup C d_Si_init_8 rfl ?_
  refine sx_callI (n := 2) (As := []) (b := 1) (st := [sx_A (1), sx_A (0)]) C (ct_To_init _ _ _) (cv_Si_11 E C _ (by rw [Rr.2.2]; decide)) (Nat.le_of_ble_eq_true rfl) d_Si_init_9 (by rw [Rr.2.2]; decide) (Nat.le_refl _) rfl rfl rfl (fun r9 G9 M9 hpo _ => ?_)
  obtain ⟨rfl, rfl, rfl⟩ := hpo
  show sx_X SC E (16, 90) (gW 17 0 1 12) mT 12 [(0, sx_A (0))] [sx_A (1), sx_A (0)]
  refine sx_putFr C hnm p_Si_12 (Or.inl ⟨_, rfl⟩) (by decide) rfl d_Si_init_12 ?_
  refine gi_put0 rfl (by decide) (by decide) ?_
  show sx_X SC E (16, 90) (gW 17 1 1 12) mT 15 [(0, sx_A (0))] []
  refine sx_aload_n C 0 d_Si_init_15 rfl rfl ?_
  refine sx_new (ci := 1) C rfl la_Se t_Se ty_Se (tb_ 88 (by decide +kernel) rfl) (tb_ 89 (by decide +kernel) rfl) (tb_ 3 (by decide +kernel) rfl) df_Se (by rw [Rr.2.2]; decide) (by rw [Rr.2.2]; decide) d_Si_init_16 (cl_of (by decide +kernel)) (n := 17) (Nat.le_refl _) rfl rfl ?_
  refine gi_new rfl (mT_0 (by decide)) (by decide) ?_
  show sx_X SC E (17, 104) (gW 18 1 17 0) mT 19 [(0, sx_A (0))] [sx_A (17), sx_A (0)]
  refine sx_dup C d_Si_init_19 rfl ?_
  refine sx_callI (n := 18) (As := []) (b := 17) (st := [sx_A (17), sx_A (0)]) C (ct_Se_init _ _ _) (cv_Si_18 E C _ (by rw [Rr.2.2]; decide)) (Nat.le_of_ble_eq_true rfl) d_Si_init_20 (by rw [Rr.2.2]; decide) (Nat.le_refl _) rfl rfl rfl (fun r20 G20 M20 hpo _ => ?_)
  obtain ⟨rfl, rfl, rfl⟩ := hpo
  show sx_X SC E (32, 239) (gW 33 1 17 11) mS 23 [(0, sx_A (0))] [sx_A (17), sx_A (0)]
  refine sx_putFr C hnm p_Si_19 (Or.inl ⟨_, rfl⟩) (by decide) rfl d_Si_init_23 ?_
  refine gi_put0 rfl (by decide) (by decide) ?_
  show sx_X SC E (32, 239) (gW 33 2 17 11) mS 26 [(0, sx_A (0))] []
  refine sx_aload_n C 0 d_Si_init_26 rfl rfl ?_
  refine sx_new (ci := 2) C rfl la_He t_He ty_He (tb_ 143 (by decide +kernel) rfl) (tb_ 144 (by decide +kernel) rfl) (tb_ 4 (by decide +kernel) rfl) df_He (by rw [Rr.2.2]; decide) (by rw [Rr.2.2]; decide) d_Si_init_27 (cl_of (by decide +kernel)) (n := 33) (Nat.le_refl _) rfl rfl ?_
  refine gi_new rfl (mS_0 (by decide) (by decide)) (by decide) ?_
  show sx_X SC E (33, 242) (gW 34 2 33 0) mS 30 [(0, sx_A (0))] [sx_A (33), sx_A (0)]
  refine sx_dup C d_Si_init_30 rfl ?_
  refine sx_callI (n := 34) (As := []) (b := 33) (st := [sx_A (33), sx_A (0)]) C (ct_He_init _ _ _) (cv_Si_25 E C _ (by rw [Rr.2.2]; decide)) (Nat.le_of_ble_eq_true rfl) d_Si_init_31 (by rw [Rr.2.2]; decide) (Nat.le_refl _) rfl rfl rfl (fun r31 G31 M31 hpo _ => ?_)
  obtain ⟨rfl, rfl, rfl⟩ := hpo
  show sx_X SC E (34, 248) (gW 35 2 33 3) mS 34 [(0, sx_A (0))] [sx_A (33), sx_A (0)]
  refine sx_putFr C hnm p_Si_26 (Or.inl ⟨_, rfl⟩) (by decide) rfl d_Si_init_34 ?_
  refine gi_put0 rfl (by decide) (by decide) ?_
  show sx_X SC E (34, 248) (gW 35 3 33 3) mS 37 [(0, sx_A (0))] []
  refine sx_aload_n C 0 d_Si_init_37 rfl rfl ?_
  refine sx_new (ci := 3) C rfl la_Un t_Un ty_Un (tb_ 161 (by decide +kernel) rfl) (tb_ 162 (by decide +kernel) rfl) (tb_ 5 (by decide +kernel) rfl) df_Un (by rw [Rr.2.2]; decide) (by rw [Rr.2.2]; decide) d_Si_init_38 (cl_of (by decide +kernel)) (n := 35) (Nat.le_refl _) rfl rfl ?_
  refine gi_new rfl (mS_0 (by decide) (by decide)) (by decide) ?_
  show sx_X SC E (35, 250) (gW 36 3 35 0) mS 41 [(0, sx_A (0))] [sx_A (35), sx_A (0)]
  refine sx_dup C d_Si_init_41 rfl ?_
  refine sx_callI (n := 36) (As := []) (b := 35) (st := [sx_A (35), sx_A (0)]) C (ct_Un_init _ _ _) (cv_Si_32 E C _ (by rw [Rr.2.2]; decide)) (Nat.le_of_ble_eq_true rfl) d_Si_init_42 (by rw [Rr.2.2]; decide) (Nat.le_refl _) rfl rfl rfl (fun r42 G42 M42 hpo _ => ?_)
  obtain ⟨rfl, rfl, rfl⟩ := hpo
  show sx_X SC E (36, 256) (gW 37 3 35 2) mS 45 [(0, sx_A (0))] [sx_A (35), sx_A (0)]
  refine sx_putFr C hnm p_Si_33 (Or.inl ⟨_, rfl⟩) (by decide) rfl d_Si_init_45 ?_
  refine gi_put0 rfl (by decide) (by decide) ?_
  show sx_X SC E (36, 256) (gW 37 4 35 2) mS 48 [(0, sx_A (0))] []
  refine sx_aload_n C 0 d_Si_init_48 rfl rfl ?_
  refine sx_new (ci := 4) C rfl la_Ca t_Ca ty_Ca (tb_ 174 (by decide +kernel) rfl) (tb_ 175 (by decide +kernel) rfl) (tb_ 6 (by decide +kernel) rfl) df_Ca (by rw [Rr.2.2]; decide) (by rw [Rr.2.2]; decide) d_Si_init_49 (cl_of (by decide +kernel)) (n := 37) (Nat.le_refl _) rfl rfl ?_
  refine gi_new rfl (mS_0 (by decide) (by decide)) (by decide) ?_
  show sx_X SC E (37, 260) (gW 38 4 37 0) mS 52 [(0, sx_A (0))] [sx_A (37), sx_A (0)]
  refine sx_dup C d_Si_init_52 rfl ?_
  refine sx_callI (n := 38) (As := []) (b := 37) (st := [sx_A (37), sx_A (0)]) C (ct_Ca_init _ _ _) (cv_Si_39 E C _ (by rw [Rr.2.2]; decide)) (Nat.le_of_ble_eq_true rfl) d_Si_init_53 (by rw [Rr.2.2]; decide) (Nat.le_refl _) rfl rfl rfl (fun r53 G53 M53 hpo _ => ?_)
  obtain ⟨rfl, rfl, rfl⟩ := hpo
  show sx_X SC E (52, 662) (gW 53 4 37 4) mS 56 [(0, sx_A (0))] [sx_A (37), sx_A (0)]
  refine sx_putFr C hnm p_Si_40 (Or.inl ⟨_, rfl⟩) (by decide) rfl d_Si_init_56 ?_
  refine gi_put0 rfl (by decide) (by decide) ?_
  show sx_X SC E (52, 662) (gW 53 5 37 4) mS 59 [(0, sx_A (0))] []
  refine sx_aload_n C 0 d_Si_init_59 rfl rfl ?_
  refine sx_iconst C d_Si_init_60 ?_
  refine sx_putz C p_Si_44 (by omega) (by decide) rfl d_Si_init_61 ?_
  rw [up_0 (show mS 0 5 = 0 from rfl)]
  show sx_X SC E (52, 662) (gW 53 5 37 4) mS 64 [(0, sx_A (0))] []
  refine sx_return C Rr rfl d_Si_init_64 ?_
  exact ⟨rfl, rfl, rfl⟩
set_option maxRecDepth 100000 in
set_option maxHeartbeats 4000000 in
theorem lp2_Mo_init {E : sx_E} (C : sx_C SC g_tbl "SiteChoiceModel" c_Mo_init E) (Rr : sx_Ret SC none (rmc 1 17 710 40) (fun r G' M' => r = none ∧ G' = GL ∧ M' = mI) E) (hnL : sx_nL E = 2) : ∀ (nF t : Nat), 30 - t < nF → t ≤ 30 → sx_X SC E (17, 710) GL (mL2 t) 169 [(1, sx_I ((t : Nat) : Int)), (0, sx_A (53))] [] := by
  intro nF
  induction nF with
  | zero => intro t h; omega
  | succ nF ih =>
    intro t hn h1
    refine sx_iload_n C 0 d_Mo_init_169 rfl rfl ?_
    refine sx_bipush C d_Mo_init_170 (by decide) ?_
    refine sx_icmp_ge C 190 ⟨by omega, by omega⟩ ⟨by omega, by omega⟩ d_Mo_init_172 (by decide) (fun c0 => ?_) (fun c0 => ?_)
    · have et : t = 30 := by omega
      subst et
      refine sx_return C Rr rfl d_Mo_init_190 ?_
      exact ⟨rfl, rfl, rfl⟩
    · refine sx_aload_n C 1 d_Mo_init_175 rfl rfl ?_
      refine sx_getr C f_Mo_35 62 (by decide) rfl rfl d_Mo_init_176 ?_
      refine sx_iload_n C 0 d_Mo_init_179 rfl rfl ?_
      refine sx_ldc2 (v := (-1)) C (-1) (tb_ 526 (by decide +kernel) rfl) (by decide) d_Mo_init_180 ?_
      refine sx_lastore C t (by decide) rfl rfl rfl (by omega) (by decide) d_Mo_init_183 ?_
      rw [mL2_s t]
      refine sx_iinc (lv' := [(1, sx_I (((t + 1 : Nat)) : Int)), (0, sx_A (53))]) C 0 d_Mo_init_184 rfl (by rw [hnL]; decide) rfl ?_
      refine sx_goto C 169 d_Mo_init_187 (by decide) ?_
      exact ih (t + 1) (by omega) (by omega)
set_option maxRecDepth 100000 in
set_option maxHeartbeats 4000000 in
theorem lp1_Mo_init {E : sx_E} (C : sx_C SC g_tbl "SiteChoiceModel" c_Mo_init E) (Rr : sx_Ret SC none (rmc 1 17 710 40) (fun r G' M' => r = none ∧ G' = GL ∧ M' = mI) E) (hnL : sx_nL E = 2) : ∀ (nF t : Nat), 6 - t < nF → t ≤ 6 → sx_X SC E (17, 710) GL (mL1 t) 146 [(1, sx_I ((t : Nat) : Int)), (0, sx_A (53))] [] := by
  intro nF
  induction nF with
  | zero => intro t h; omega
  | succ nF ih =>
    intro t hn h1
    refine sx_iload_n C 0 d_Mo_init_146 rfl rfl ?_
    refine sx_bipush C d_Mo_init_147 (by decide) ?_
    refine sx_icmp_ge C 167 ⟨by omega, by omega⟩ ⟨by omega, by omega⟩ d_Mo_init_149 (by decide) (fun c0 => ?_) (fun c0 => ?_)
    · have et : t = 6 := by omega
      subst et
      refine sx_iconst C d_Mo_init_167 ?_
      refine sx_istore_n (lv' := [(1, sx_I (0)), (0, sx_A (53))]) C d_Mo_init_168 rfl (by rw [hnL]; decide) rfl ?_
      rw [← mL2_0]
      exact lp2_Mo_init C Rr hnL 31 0 (by omega) (by omega)
    · refine sx_aload_n C 1 d_Mo_init_152 rfl rfl ?_
      refine sx_getr C f_Mo_13 55 (by decide) rfl rfl d_Mo_init_153 ?_
      refine sx_iload_n C 0 d_Mo_init_156 rfl rfl ?_
      refine sx_ldc2 (v := 10000) C 10000 (tb_ 525 (by decide +kernel) rfl) (by decide) d_Mo_init_157 ?_
      refine sx_lastore C t (by decide) rfl rfl rfl (by omega) (by decide) d_Mo_init_160 ?_
      rw [mL1_s t]
      refine sx_iinc (lv' := [(1, sx_I (((t + 1 : Nat)) : Int)), (0, sx_A (53))]) C 0 d_Mo_init_161 rfl (by rw [hnL]; decide) rfl ?_
      refine sx_goto C 146 d_Mo_init_164 (by decide) ?_
      exact ih (t + 1) (by omega) (by omega)
set_option maxRecDepth 100000 in
set_option maxHeartbeats 4000000 in
theorem ct_Mo_init (l : Launch) (D : va_G) (tc : Nat → ClassId) : sx_Met SC l D tc y_Mo_init w_Mo_init (rmc 1 17 710 40) [sx_A (53)] (gW 54 5 53 0) mS (fun r G' M' => r = none ∧ G' = GL ∧ M' = mI) := by
  refine sx_enter (by decide) rfl (Nat.le_of_ble_eq_true rfl) (Ts := g_tbl) (fun _ h => List.mem_cons_of_mem _ h) (fun E C Rr hnm hnL => ?_)
  show sx_X SC E (0, 0) (gW 54 5 53 0) mS 0 [(0, sx_A (53))] []
  refine sx_aload_n C 0 d_Mo_init_0 rfl rfl ?_
  refine sx_objInit C (tb_ 523 (by decide +kernel) rfl) (tb_ 18 (by decide +kernel) rfl) (tb_ 19 rfl rfl) d_Mo_init_1 (by rw [Rr.2.2]; decide) (by rw [Rr.2.2]; decide) ?_
  refine sx_aload_n C 0 d_Mo_init_4 rfl rfl ?_
  refine sx_bipush C d_Mo_init_5 (by decide) ?_
  refine sx_newa (a := 2) (N := 6) C rfl rfl (Or.inr (Or.inl rfl)) (tb_ 86 (by decide +kernel) rfl) rfl (by decide) (by rw [Rr.2.2]; decide) (by rw [Rr.2.2]; decide) d_Mo_init_7 (cl_of (by decide +kernel)) (n := 54) (Nat.le_refl _) rfl rfl ?_
  refine gi_arr rfl (mS_0 (by decide) (by decide)) (by decide) ?_
  show sx_X SC E (1, 6) (gW 55 5 53 0) mS 9 [(0, sx_A (53))] [sx_A (54), sx_A (53)]
  refine sx_putFr C hnm p_Mo_7 (Or.inr ⟨_, rfl⟩) (by decide) rfl d_Mo_init_9 ?_
  refine gi_put (by decide) rfl (by decide) (by decide) (by decide) ?_
  show sx_X SC E (1, 6) (gW 55 5 53 3) mS 12 [(0, sx_A (53))] []
  refine sx_aload_n C 0 d_Mo_init_12 rfl rfl ?_
  refine sx_bipush C d_Mo_init_13 (by decide) ?_
  refine sx_newa (a := 2) (N := 6) C rfl rfl (Or.inr (Or.inl rfl)) (tb_ 86 (by decide +kernel) rfl) rfl (by decide) (by rw [Rr.2.2]; decide) (by rw [Rr.2.2]; decide) d_Mo_init_15 (cl_of (by decide +kernel)) (n := 55) (Nat.le_refl _) rfl rfl ?_
  refine gi_arr rfl (mS_0 (by decide) (by decide)) (by decide) ?_
  show sx_X SC E (2, 12) (gW 56 5 53 3) mS 17 [(0, sx_A (53))] [sx_A (55), sx_A (53)]
  refine sx_putFr C hnm p_Mo_13 (Or.inr ⟨_, rfl⟩) (by decide) rfl d_Mo_init_17 ?_
  refine gi_put (by decide) rfl (by decide) (by decide) (by decide) ?_
  show sx_X SC E (2, 12) (gW 56 5 53 4) mS 20 [(0, sx_A (53))] []
  refine sx_aload_n C 0 d_Mo_init_20 rfl rfl ?_
  refine sx_iconst C d_Mo_init_21 ?_
  refine sx_newa (a := 2) (N := 5) C rfl rfl (Or.inr (Or.inl rfl)) (tb_ 86 (by decide +kernel) rfl) rfl (by decide) (by rw [Rr.2.2]; decide) (by rw [Rr.2.2]; decide) d_Mo_init_22 (cl_of (by decide +kernel)) (n := 56) (Nat.le_refl _) rfl rfl ?_
  refine gi_arr rfl (mS_0 (by decide) (by decide)) (by decide) ?_
  show sx_X SC E (3, 17) (gW 57 5 53 4) mS 24 [(0, sx_A (53))] [sx_A (56), sx_A (53)]
  refine sx_putFr C hnm p_Mo_16 (Or.inr ⟨_, rfl⟩) (by decide) rfl d_Mo_init_24 ?_
  refine gi_put (by decide) rfl (by decide) (by decide) (by decide) ?_
  show sx_X SC E (3, 17) (gW 57 5 53 5) mS 27 [(0, sx_A (53))] []
  refine sx_aload_n C 0 d_Mo_init_27 rfl rfl ?_
  refine sx_iconst C d_Mo_init_28 ?_
  refine sx_newa (a := 2) (N := 5) C rfl rfl (Or.inr (Or.inl rfl)) (tb_ 86 (by decide +kernel) rfl) rfl (by decide) (by rw [Rr.2.2]; decide) (by rw [Rr.2.2]; decide) d_Mo_init_29 (cl_of (by decide +kernel)) (n := 57) (Nat.le_refl _) rfl rfl ?_
  refine gi_arr rfl (mS_0 (by decide) (by decide)) (by decide) ?_
  show sx_X SC E (4, 22) (gW 58 5 53 5) mS 31 [(0, sx_A (53))] [sx_A (57), sx_A (53)]
  refine sx_putFr C hnm p_Mo_19 (Or.inr ⟨_, rfl⟩) (by decide) rfl d_Mo_init_31 ?_
  refine gi_put (by decide) rfl (by decide) (by decide) (by decide) ?_
  show sx_X SC E (4, 22) (gW 58 5 53 6) mS 34 [(0, sx_A (53))] []
  refine sx_aload_n C 0 d_Mo_init_34 rfl rfl ?_
  refine sx_iconst C d_Mo_init_35 ?_
  refine sx_newa (a := 2) (N := 5) C rfl rfl (Or.inr (Or.inl rfl)) (tb_ 86 (by decide +kernel) rfl) rfl (by decide) (by rw [Rr.2.2]; decide) (by rw [Rr.2.2]; decide) d_Mo_init_36 (cl_of (by decide +kernel)) (n := 58) (Nat.le_refl _) rfl rfl ?_
  refine gi_arr rfl (mS_0 (by decide) (by decide)) (by decide) ?_
  show sx_X SC E (5, 27) (gW 59 5 53 6) mS 38 [(0, sx_A (53))] [sx_A (58), sx_A (53)]
  refine sx_putFr C hnm p_Mo_22 (Or.inr ⟨_, rfl⟩) (by decide) rfl d_Mo_init_38 ?_
  refine gi_put (by decide) rfl (by decide) (by decide) (by decide) ?_
  show sx_X SC E (5, 27) (gW 59 5 53 7) mS 41 [(0, sx_A (53))] []
  refine sx_aload_n C 0 d_Mo_init_41 rfl rfl ?_
  refine sx_iconst C d_Mo_init_42 ?_
  refine sx_newa (a := 2) (N := 5) C rfl rfl (Or.inr (Or.inl rfl)) (tb_ 86 (by decide +kernel) rfl) rfl (by decide) (by rw [Rr.2.2]; decide) (by rw [Rr.2.2]; decide) d_Mo_init_43 (cl_of (by decide +kernel)) (n := 59) (Nat.le_refl _) rfl rfl ?_
  refine gi_arr rfl (mS_0 (by decide) (by decide)) (by decide) ?_
  show sx_X SC E (6, 32) (gW 60 5 53 7) mS 45 [(0, sx_A (53))] [sx_A (59), sx_A (53)]
  refine sx_putFr C hnm p_Mo_25 (Or.inr ⟨_, rfl⟩) (by decide) rfl d_Mo_init_45 ?_
  refine gi_put (by decide) rfl (by decide) (by decide) (by decide) ?_
  show sx_X SC E (6, 32) (gW 60 5 53 8) mS 48 [(0, sx_A (53))] []
  refine sx_aload_n C 0 d_Mo_init_48 rfl rfl ?_
  refine sx_iconst C d_Mo_init_49 ?_
  refine sx_newa (a := 2) (N := 5) C rfl rfl (Or.inr (Or.inl rfl)) (tb_ 86 (by decide +kernel) rfl) rfl (by decide) (by rw [Rr.2.2]; decide) (by rw [Rr.2.2]; decide) d_Mo_init_50 (cl_of (by decide +kernel)) (n := 60) (Nat.le_refl _) rfl rfl ?_
  refine gi_arr rfl (mS_0 (by decide) (by decide)) (by decide) ?_
  show sx_X SC E (7, 37) (gW 61 5 53 8) mS 52 [(0, sx_A (53))] [sx_A (60), sx_A (53)]
  refine sx_putFr C hnm p_Mo_28 (Or.inr ⟨_, rfl⟩) (by decide) rfl d_Mo_init_52 ?_
  refine gi_put (by decide) rfl (by decide) (by decide) (by decide) ?_
  show sx_X SC E (7, 37) (gW 61 5 53 9) mS 55 [(0, sx_A (53))] []
  refine sx_aload_n C 0 d_Mo_init_55 rfl rfl ?_
  refine sx_iconst C d_Mo_init_56 ?_
  refine sx_newa (a := 1) (N := 5) C rfl rfl (Or.inr (Or.inr rfl)) (tb_ 87 (by decide +kernel) rfl) rfl (by decide) (by rw [Rr.2.2]; decide) (by rw [Rr.2.2]; decide) d_Mo_init_57 (cl_of (by decide +kernel)) (n := 61) (Nat.le_refl _) rfl rfl ?_
  refine gi_arr rfl (mS_0 (by decide) (by decide)) (by decide) ?_
  show sx_X SC E (8, 42) (gW 62 5 53 9) mS 59 [(0, sx_A (53))] [sx_A (61), sx_A (53)]
  refine sx_putFr C hnm p_Mo_31 (Or.inr ⟨_, rfl⟩) (by decide) rfl d_Mo_init_59 ?_
  refine gi_put (by decide) rfl (by decide) (by decide) (by decide) ?_
  show sx_X SC E (8, 42) (gW 62 5 53 10) mS 62 [(0, sx_A (53))] []
  refine sx_aload_n C 0 d_Mo_init_62 rfl rfl ?_
  refine sx_bipush C d_Mo_init_63 (by decide) ?_
  refine sx_newa (a := 2) (N := 30) C rfl rfl (Or.inr (Or.inl rfl)) (tb_ 86 (by decide +kernel) rfl) rfl (by decide) (by rw [Rr.2.2]; decide) (by rw [Rr.2.2]; decide) d_Mo_init_65 (cl_of (by decide +kernel)) (n := 62) (Nat.le_refl _) rfl rfl ?_
  refine gi_arr rfl (mS_0 (by decide) (by decide)) (by decide) ?_
  show sx_X SC E (9, 72) (gW 63 5 53 10) mS 67 [(0, sx_A (53))] [sx_A (62), sx_A (53)]
  refine sx_putFr C hnm p_Mo_35 (Or.inr ⟨_, rfl⟩) (by decide) rfl d_Mo_init_67 ?_
  refine gi_put (by decide) rfl (by decide) (by decide) (by decide) ?_
  show sx_X SC E (9, 72) (gW 63 5 53 11) mS 70 [(0, sx_A (53))] []
  refine sx_aload_n C 0 d_Mo_init_70 rfl rfl ?_
  refine sx_ldc2 (v := (10000000)) C (10000000) (tb_ 524 (by decide +kernel) rfl) (by decide) d_Mo_init_71 ?_
  refine sx_putl C p_Mo_40 (by decide) rfl d_Mo_init_74 ?_
  show sx_X SC E (9, 72) (gW 63 5 53 11) mB 77 [(0, sx_A (53))] []
  refine sx_aload_n C 0 d_Mo_init_77 rfl rfl ?_
  refine sx_bipush C d_Mo_init_78 (by decide) ?_
  refine sx_newa (a := 0) (N := 6) C rfl rfl (Or.inl rfl) (tb_ 142 (by decide +kernel) rfl) rfl (by decide) (by rw [Rr.2.2]; decide) (by rw [Rr.2.2]; decide) d_Mo_init_80 (cl_of (by decide +kernel)) (n := 63) (Nat.le_refl _) rfl rfl ?_
  refine gi_arr rfl (mB_0 (by decide) (by decide) (by decide)) (by decide) ?_
  show sx_X SC E (10, 78) (gW 64 5 53 11) mB 82 [(0, sx_A (53))] [sx_A (63), sx_A (53)]
  refine sx_putFr C hnm p_Mo_44 (Or.inr ⟨_, rfl⟩) (by decide) rfl d_Mo_init_82 ?_
  refine gi_put (by decide) rfl (by decide) (by decide) (by decide) ?_
  show sx_X SC E (10, 78) (gW 64 5 53 14) mB 85 [(0, sx_A (53))] []
  refine sx_aload_n C 0 d_Mo_init_85 rfl rfl ?_
  refine sx_bipush C d_Mo_init_86 (by decide) ?_
  refine sx_newa (a := 0) (N := 6) C rfl rfl (Or.inl rfl) (tb_ 142 (by decide +kernel) rfl) rfl (by decide) (by rw [Rr.2.2]; decide) (by rw [Rr.2.2]; decide) d_Mo_init_88 (cl_of (by decide +kernel)) (n := 64) (Nat.le_refl _) rfl rfl ?_
  refine gi_arr rfl (mB_0 (by decide) (by decide) (by decide)) (by decide) ?_
  show sx_X SC E (11, 84) (gW 65 5 53 14) mB 90 [(0, sx_A (53))] [sx_A (64), sx_A (53)]
  refine sx_putFr C hnm p_Mo_48 (Or.inr ⟨_, rfl⟩) (by decide) rfl d_Mo_init_90 ?_
  refine gi_put (by decide) rfl (by decide) (by decide) (by decide) ?_
  show sx_X SC E (11, 84) (gW 65 5 53 19) mB 93 [(0, sx_A (53))] []
  refine sx_aload_n C 0 d_Mo_init_93 rfl rfl ?_
  refine sx_bipush C d_Mo_init_94 (by decide) ?_
  refine sx_newa (a := 0) (N := 6) C rfl rfl (Or.inl rfl) (tb_ 142 (by decide +kernel) rfl) rfl (by decide) (by rw [Rr.2.2]; decide) (by rw [Rr.2.2]; decide) d_Mo_init_96 (cl_of (by decide +kernel)) (n := 65) (Nat.le_refl _) rfl rfl ?_
  refine gi_arr rfl (mB_0 (by decide) (by decide) (by decide)) (by decide) ?_
  show sx_X SC E (12, 90) (gW 66 5 53 19) mB 98 [(0, sx_A (53))] [sx_A (65), sx_A (53)]
  refine sx_putFr C hnm p_Mo_51 (Or.inr ⟨_, rfl⟩) (by decide) rfl d_Mo_init_98 ?_
  refine gi_put (by decide) rfl (by decide) (by decide) (by decide) ?_
  show sx_X SC E (12, 90) (gW 66 5 53 20) mB 101 [(0, sx_A (53))] []
  refine sx_aload_n C 0 d_Mo_init_101 rfl rfl ?_
  refine sx_bipush C d_Mo_init_102 (by decide) ?_
  refine sx_newa (a := 2) (N := 6) C rfl rfl (Or.inr (Or.inl rfl)) (tb_ 86 (by decide +kernel) rfl) rfl (by decide) (by rw [Rr.2.2]; decide) (by rw [Rr.2.2]; decide) d_Mo_init_104 (cl_of (by decide +kernel)) (n := 66) (Nat.le_refl _) rfl rfl ?_
  refine gi_arr rfl (mB_0 (by decide) (by decide) (by decide)) (by decide) ?_
  show sx_X SC E (13, 96) (gW 67 5 53 20) mB 106 [(0, sx_A (53))] [sx_A (66), sx_A (53)]
  refine sx_putFr C hnm p_Mo_54 (Or.inr ⟨_, rfl⟩) (by decide) rfl d_Mo_init_106 ?_
  refine gi_put (by decide) rfl (by decide) (by decide) (by decide) ?_
  show sx_X SC E (13, 96) (gW 67 5 53 21) mB 109 [(0, sx_A (53))] []
  refine sx_aload_n C 0 d_Mo_init_109 rfl rfl ?_
  refine sx_bipush C d_Mo_init_110 (by decide) ?_
  refine sx_newa (a := 0) (N := 6) C rfl rfl (Or.inl rfl) (tb_ 142 (by decide +kernel) rfl) rfl (by decide) (by rw [Rr.2.2]; decide) (by rw [Rr.2.2]; decide) d_Mo_init_112 (cl_of (by decide +kernel)) (n := 67) (Nat.le_refl _) rfl rfl ?_
  refine gi_arr rfl (mB_0 (by decide) (by decide) (by decide)) (by decide) ?_
  show sx_X SC E (14, 102) (gW 68 5 53 21) mB 114 [(0, sx_A (53))] [sx_A (67), sx_A (53)]
  refine sx_putFr C hnm p_Mo_57 (Or.inr ⟨_, rfl⟩) (by decide) rfl d_Mo_init_114 ?_
  refine gi_put (by decide) rfl (by decide) (by decide) (by decide) ?_
  show sx_X SC E (14, 102) (gW 68 5 53 22) mB 117 [(0, sx_A (53))] []
  refine sx_aload_n C 0 d_Mo_init_117 rfl rfl ?_
  refine sx_sipush C d_Mo_init_118 (by decide) ?_
  refine sx_newa (a := 2) (N := 192) C rfl rfl (Or.inr (Or.inl rfl)) (tb_ 86 (by decide +kernel) rfl) rfl (by decide) (by rw [Rr.2.2]; decide) (by rw [Rr.2.2]; decide) d_Mo_init_121 (cl_of (by decide +kernel)) (n := 68) (Nat.le_refl _) rfl rfl ?_
  refine gi_arr rfl (mB_0 (by decide) (by decide) (by decide)) (by decide) ?_
  show sx_X SC E (15, 294) (gW 69 5 53 22) mB 123 [(0, sx_A (53))] [sx_A (68), sx_A (53)]
  refine sx_putFr C hnm p_Mo_60 (Or.inr ⟨_, rfl⟩) (by decide) rfl d_Mo_init_123 ?_
  refine gi_put (by decide) rfl (by decide) (by decide) (by decide) ?_
  show sx_X SC E (15, 294) (gW 69 5 53 23) mB 126 [(0, sx_A (53))] []
  refine sx_aload_n C 0 d_Mo_init_126 rfl rfl ?_
  refine sx_sipush C d_Mo_init_127 (by decide) ?_
  refine sx_newa (a := 2) (N := 192) C rfl rfl (Or.inr (Or.inl rfl)) (tb_ 86 (by decide +kernel) rfl) rfl (by decide) (by rw [Rr.2.2]; decide) (by rw [Rr.2.2]; decide) d_Mo_init_130 (cl_of (by decide +kernel)) (n := 69) (Nat.le_refl _) rfl rfl ?_
  refine gi_arr rfl (mB_0 (by decide) (by decide) (by decide)) (by decide) ?_
  show sx_X SC E (16, 486) (gW 70 5 53 23) mB 132 [(0, sx_A (53))] [sx_A (69), sx_A (53)]
  refine sx_putFr C hnm p_Mo_63 (Or.inr ⟨_, rfl⟩) (by decide) rfl d_Mo_init_132 ?_
  refine gi_put (by decide) rfl (by decide) (by decide) (by decide) ?_
  show sx_X SC E (16, 486) (gW 70 5 53 24) mB 135 [(0, sx_A (53))] []
  refine sx_aload_n C 0 d_Mo_init_135 rfl rfl ?_
  refine sx_sipush C d_Mo_init_136 (by decide) ?_
  refine sx_newa (a := 2) (N := 224) C rfl rfl (Or.inr (Or.inl rfl)) (tb_ 86 (by decide +kernel) rfl) rfl (by decide) (by rw [Rr.2.2]; decide) (by rw [Rr.2.2]; decide) d_Mo_init_139 (cl_of (by decide +kernel)) (n := 70) (Nat.le_refl _) rfl rfl ?_
  refine gi_arr rfl (mB_0 (by decide) (by decide) (by decide)) (by decide) ?_
  show sx_X SC E (17, 710) (gW 71 5 53 24) mB 141 [(0, sx_A (53))] [sx_A (70), sx_A (53)]
  refine sx_putFr C hnm p_Mo_66 (Or.inr ⟨_, rfl⟩) (by decide) rfl d_Mo_init_141 ?_
  refine gi_put (by decide) rfl (by decide) (by decide) (by decide) ?_
  show sx_X SC E (17, 710) (gW 71 5 53 25) mB 144 [(0, sx_A (53))] []
  refine gi_all ?_
  refine sx_iconst C d_Mo_init_144 ?_
  refine sx_istore_n (lv' := [(1, sx_I (0)), (0, sx_A (53))]) C d_Mo_init_145 rfl (by rw [hnL]; decide) rfl ?_
  rw [← mL1_0]
  exact lp1_Mo_init C Rr hnL 7 0 (by omega) (by omega)
