/-! the law from its entry -/
set_option maxRecDepth 100000 in
set_option maxHeartbeats 4000000 in
theorem law_all {E : sx_E} (C : sx_C SC g_tbl "SiteChoiceLaw" code E) {b L : Nat} {xs : Nat → Int32} (Rr : lwE E b L xs) (hnL : sx_nL E = 4) (hex : ∀ (M : sx_M0) (i : Nat), sx_X SC E (71, 1403) GL M 918 [(3, sx_I (((i : Nat) : Int))), (2, sx_A (53)), (1, sx_A (0)), (0, sx_B (b))] [sx_I (1)]) : sx_X SC E (0, 0) (gW 0 0 99 0) mZ 0 [(0, sx_B (b))] [] := by
  refine sx_new (ci := 5) C rfl la_Si t_Si ty_Si (tb_ 12 (by decide +kernel) rfl) (tb_ 13 (by decide +kernel) rfl) (tb_ 1 (by decide +kernel) rfl) df_Si (by rw [Rr.2.2]; decide) (by rw [Rr.2.2]; decide) d_La_law_0 (cl_of (by decide +kernel)) (n := 0) (Nat.le_refl _) rfl rfl ?_
  refine gi_arr rfl rfl (by decide) ?_
  show sx_X SC E (1, 6) (gW 1 0 99 0) mZ 3 [(0, sx_B (b))] [sx_A (0)]
  refine sx_dup C d_La_law_3 rfl ?_
  refine sx_callI (n := 1) (As := []) (b := 0) (st := [sx_A (0)]) C (ct_Si_init _ _ _) (cv_La_9 E C _ (by rw [Rr.2.2]; decide)) (Nat.le_of_ble_eq_true rfl) d_La_law_4 (by rw [Rr.2.2]; decide) (Nat.le_refl _) rfl rfl rfl (fun r4 G4 M4 hpo _ => ?_)
  obtain ⟨rfl, rfl, rfl⟩ := hpo
  show sx_X SC E (53, 668) (gW 53 5 37 4) mS 7 [(0, sx_B (b))] [sx_A (0)]
  refine sx_astore_n (lv' := [(1, sx_A (0)), (0, sx_B (b))]) C d_La_law_7 rfl (by rw [hnL]; decide) rfl ?_
  refine sx_new (ci := 6) C rfl la_Mo t_Mo ty_Mo (tb_ 518 (by decide +kernel) rfl) (tb_ 519 (by decide +kernel) rfl) (tb_ 7 (by decide +kernel) rfl) df_Mo (by rw [Rr.2.2]; decide) (by rw [Rr.2.2]; decide) d_La_law_8 (cl_of (by decide +kernel)) (n := 53) (Nat.le_refl _) rfl rfl ?_
  refine gi_new rfl (mS_0 (by decide) (by decide)) (by decide) ?_
  show sx_X SC E (54, 693) (gW 54 5 53 0) mS 11 [(1, sx_A (0)), (0, sx_B (b))] [sx_A (53)]
  refine sx_dup C d_La_law_11 rfl ?_
  refine sx_callI (n := 54) (As := []) (b := 53) (st := [sx_A (53)]) C (ct_Mo_init _ _ _) (cv_La_12 E C _ (by rw [Rr.2.2]; decide)) (Nat.le_of_ble_eq_true rfl) d_La_law_12 (by rw [Rr.2.2]; decide) (Nat.le_refl _) rfl rfl rfl (fun r12 G12 M12 hpo _ => ?_)
  obtain ⟨rfl, rfl, rfl⟩ := hpo
  show sx_X SC E (71, 1403) GL mI 15 [(1, sx_A (0)), (0, sx_B (b))] [sx_A (53)]
  refine sx_astore_n (lv' := [(2, sx_A (53)), (1, sx_A (0)), (0, sx_B (b))]) C d_La_law_15 rfl (by rw [hnL]; decide) rfl ?_
  refine sx_iconst C d_La_law_16 ?_
  refine sx_istore_n (lv' := [(3, sx_I (0)), (2, sx_A (53)), (1, sx_A (0)), (0, sx_B (b))]) C d_La_law_17 rfl (by rw [hnL]; decide) rfl ?_
  exact law_loop C Rr hnL hex (L + 1) 0 mI (by omega) (Nat.zero_le L) rl_mI
