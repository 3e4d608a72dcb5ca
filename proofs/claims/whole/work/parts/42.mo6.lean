theorem rc_yes {M : sx_M0} {d p : Nat} (h1 : (d : Int) < M 1 0) (h2 : (p : Int) < M 1 1) (h3 : M 16 p = 0) (h4 : cgS M d p) : rcS M d p = M (4 + 1 + d) p ∧ rcS M d p ≠ -1 := by
  have e : rcS M d p = M (4 + 1 + d) p := if_pos ⟨h1, h2, h3, h4.1, h4.2⟩
  exact ⟨e, by rw [e]; exact h4.1⟩
theorem rc_no {M : sx_M0} {d p : Nat} (h : M 16 p ≠ 0 ∨ ¬ cgS M d p) : rcS M d p = -1 := by
  refine if_neg (fun z => ?_)
  rcases h with h | h
  · exact h z.2.2.1
  · exact h ⟨z.2.2.2.1, z.2.2.2.2⟩
set_option maxRecDepth 100000 in
set_option maxHeartbeats 4000000 in
theorem lp2_Mo_ways  (M : sx_M0) (hT : tw M) (hr : rT M) (d : Nat) (hd : d < (M 1 0).toNat) {E : sx_E} (C : sx_C SC g_tbl "SiteChoiceModel" c_Mo_ways E) (Rr : sx_Ret SC (some .long) (rmk 1 40) (fun r G' M' => G' = GL ∧ M' = M ∧ r = some (sx_J (wyS M (M 1 0).toNat))) E) (hnL : sx_nL E = 7) (hk : sx_X SC E (0, 0) GL M 64 [(4, sx_J (crS M d (M 1 1).toNat)), (3, sx_I (((d : Nat) : Int))), (1, sx_J (wyS M d)), (0, sx_A (53))] []) : ∀ (nF : Nat) (p : Nat), (M 1 1).toNat - p < nF → p ≤ (M 1 1).toNat → sx_X SC E (0, 0) GL M 18 [(6, sx_I (((p : Nat) : Int))), (4, sx_J (crS M d p)), (3, sx_I (((d : Nat) : Int))), (1, sx_J (wyS M d)), (0, sx_A (53))] [] := by
  intro nF
  induction nF with
  | zero => intro p h; omega
  | succ nF ih =>
    intro p hn h1
    have g0 := hT.1
    have g1 := hT.2.1
    have r0 := hr.1
    have r1 := hr.2.1
    refine sx_iload C 0 d_Mo_ways_18 rfl ?_
    refine sx_aload_n C 4 d_Mo_ways_20 rfl rfl ?_
    refine sx_geti C f_Mo_77 (by decide) rfl d_Mo_ways_21 ?_
    refine sx_icmp_ge C 64 ⟨by omega, by omega⟩ ⟨by omega, by omega⟩ d_Mo_ways_24 (by decide) (fun c24 => ?_) (fun c24 => ?_)
    · refine sx_sub [1, 2, 3, 4] rfl ?_
      rw [show p = (M 1 1).toNat by omega]
      exact hk
    · obtain ⟨ep1, ep2, ep3, ep4, ep5, ep6⟩ := hr.2.2.2.2.2.2 p (by omega)
      have eb := hT.2.2.2.2.2.2.2.2.2.2.2 p (by omega)
      refine sx_aload_n C 4 d_Mo_ways_27 rfl rfl ?_
      refine sx_iload_n C 2 d_Mo_ways_28 rfl rfl ?_
      refine sx_iload C 0 d_Mo_ways_29 rfl ?_
      refine sx_callV (n := 71) (As := [sx_I (((d : Nat) : Int)), sx_I (((p : Nat) : Int))]) (st := []) C (ct_Mo_canGo _ _ _ M hT hr d p (by omega) (by omega)) rfl (by decide) rfl (cv_Mo_111 E C _ (by rw [Rr.2.2]; decide)) (Nat.le_of_ble_eq_true rfl) d_Mo_ways_31 (by rw [Rr.2.2]; decide) (by decide) rfl rfl rfl (fun r31 G31 M31 hpo _ => ?_)
      obtain ⟨e1, e2, b31, rfl, hb31⟩ := hpo
      rw [e1, e2]
      show sx_X SC E (0, 0) GL M 34 [(6, sx_I (((p : Nat) : Int))), (4, sx_J (crS M d p)), (3, sx_I (((d : Nat) : Int))), (1, sx_J (wyS M d)), (0, sx_A (53))] [sx_I (b31)]
      refine sx_if_eq C 54 ⟨by omega, by omega⟩ d_Mo_ways_34 (by decide) (fun c34 => ?_) (fun c34 => ?_)
      · refine sx_lload C 1 d_Mo_ways_54 rfl ?_
        rw [show crS M d p = crS M d (p + 1) from by show _ = crS M d p + (if rcS M d p = -1 then 0 else 1); rw [if_pos (rc_no (by first | (left; omega) | (right; rcases hb31 with ⟨z1, z2⟩ | ⟨z1, z2⟩; (exfalso; omega); exact z2))), Int.add_zero]]
        refine sx_lstore (lv' := [(4, sx_J (crS M d (p + 1))), (6, sx_I (((p : Nat) : Int))), (3, sx_I (((d : Nat) : Int))), (1, sx_J (wyS M d)), (0, sx_A (53))]) C d_Mo_ways_56 (by rw [hnL]; decide) rfl ?_
        refine sx_iinc (lv' := [(6, sx_I (((p + 1 : Nat) : Int))), (4, sx_J (crS M d (p + 1))), (3, sx_I (((d : Nat) : Int))), (1, sx_J (wyS M d)), (0, sx_A (53))]) C 1 d_Mo_ways_58 rfl (by rw [hnL]; decide) rfl ?_
        refine sx_goto C 18 d_Mo_ways_61 (by decide) ?_
        refine sx_sub [0, 1, 2, 3, 4] rfl ?_
        exact ih (p + 1) (by omega) (by omega)
      · refine sx_aload_n C 4 d_Mo_ways_37 rfl rfl ?_
        refine sx_getr C f_Mo_31 61 (by decide) rfl rfl d_Mo_ways_38 ?_
        refine sx_iload C 0 d_Mo_ways_41 rfl ?_
        refine sx_zaload C p (by decide) rfl rfl rfl (by omega) (by decide) d_Mo_ways_43 ?_
        refine sx_if_ne C 54 ⟨by omega, by omega⟩ d_Mo_ways_44 (by decide) (fun c44 => ?_) (fun c44 => ?_)
        · refine sx_lload C 1 d_Mo_ways_54 rfl ?_
          rw [show crS M d p = crS M d (p + 1) from by show _ = crS M d p + (if rcS M d p = -1 then 0 else 1); rw [if_pos (rc_no (by first | (left; omega) | (right; rcases hb31 with ⟨z1, z2⟩ | ⟨z1, z2⟩; (exfalso; omega); exact z2))), Int.add_zero]]
          refine sx_lstore (lv' := [(4, sx_J (crS M d (p + 1))), (6, sx_I (((p : Nat) : Int))), (3, sx_I (((d : Nat) : Int))), (1, sx_J (wyS M d)), (0, sx_A (53))]) C d_Mo_ways_56 (by rw [hnL]; decide) rfl ?_
          refine sx_iinc (lv' := [(6, sx_I (((p + 1 : Nat) : Int))), (4, sx_J (crS M d (p + 1))), (3, sx_I (((d : Nat) : Int))), (1, sx_J (wyS M d)), (0, sx_A (53))]) C 1 d_Mo_ways_58 rfl (by rw [hnL]; decide) rfl ?_
          refine sx_goto C 18 d_Mo_ways_61 (by decide) ?_
          refine sx_sub [0, 1, 2, 3, 4] rfl ?_
          exact ih (p + 1) (by omega) (by omega)
        · refine sx_lload C 1 d_Mo_ways_47 rfl ?_
          refine sx_lconst C 1 rfl d_Mo_ways_49 ?_
          refine sx_ladd C d_Mo_ways_50 ?_
          refine sx_goto C 56 d_Mo_ways_51 (by decide) ?_
          rw [show (crS M d p) + 1 = crS M d (p + 1) from by show _ = crS M d p + (if rcS M d p = -1 then 0 else 1); rw [if_neg (rc_yes (by omega) (by omega) (by omega) (by rcases hb31 with ⟨z1, z2⟩ | ⟨z1, z2⟩; (exact z2); (exfalso; omega))).2]]
          refine sx_lstore (lv' := [(4, sx_J (crS M d (p + 1))), (6, sx_I (((p : Nat) : Int))), (3, sx_I (((d : Nat) : Int))), (1, sx_J (wyS M d)), (0, sx_A (53))]) C d_Mo_ways_56 (by rw [hnL]; decide) rfl ?_
          refine sx_iinc (lv' := [(6, sx_I (((p + 1 : Nat) : Int))), (4, sx_J (crS M d (p + 1))), (3, sx_I (((d : Nat) : Int))), (1, sx_J (wyS M d)), (0, sx_A (53))]) C 1 d_Mo_ways_58 rfl (by rw [hnL]; decide) rfl ?_
          refine sx_goto C 18 d_Mo_ways_61 (by decide) ?_
          refine sx_sub [0, 1, 2, 3, 4] rfl ?_
          exact ih (p + 1) (by omega) (by omega)
set_option maxRecDepth 100000 in
set_option maxHeartbeats 4000000 in
theorem lp_Mo_ways  (M : sx_M0) (hT : tw M) (hr : rT M) {E : sx_E} (C : sx_C SC g_tbl "SiteChoiceModel" c_Mo_ways E) (Rr : sx_Ret SC (some .long) (rmk 1 40) (fun r G' M' => G' = GL ∧ M' = M ∧ r = some (sx_J (wyS M (M 1 0).toNat))) E) (hnL : sx_nL E = 7) : ∀ (nF : Nat) (d : Nat), (M 1 0).toNat - d < nF → d ≤ (M 1 0).toNat → sx_X SC E (0, 0) GL M 4 [(3, sx_I (((d : Nat) : Int))), (1, sx_J (wyS M d)), (0, sx_A (53))] [] := by
  intro nF
  induction nF with
  | zero => intro d h; omega
  | succ nF ih =>
    intro d hn h1
    have g0 := hT.1
    have g1 := hT.2.1
    have r0 := hr.1
    have r1 := hr.2.1
    refine sx_iload_n C 0 d_Mo_ways_4 rfl rfl ?_
    refine sx_aload_n C 2 d_Mo_ways_5 rfl rfl ?_
    refine sx_geti C f_Mo_73 (by decide) rfl d_Mo_ways_6 ?_
    refine sx_icmp_ge C 90 ⟨by omega, by omega⟩ ⟨by omega, by omega⟩ d_Mo_ways_9 (by decide) (fun c9 => ?_) (fun c9 => ?_)
    · refine sx_lload_n C 1 d_Mo_ways_90 rfl rfl ?_
      refine sx_lreturn C Rr rfl d_Mo_ways_91 ?_
      rw [show d = (M 1 0).toNat by omega]
      exact ⟨rfl, rfl, rfl⟩
    · refine sx_lconst C 0 rfl d_Mo_ways_12 ?_
      refine sx_lstore (lv' := [(4, sx_J (0)), (3, sx_I (((d : Nat) : Int))), (1, sx_J (wyS M d)), (0, sx_A (53))]) C d_Mo_ways_13 (by rw [hnL]; decide) rfl ?_
      refine sx_iconst C d_Mo_ways_15 ?_
      refine sx_istore (lv' := [(6, sx_I (0)), (4, sx_J (0)), (3, sx_I (((d : Nat) : Int))), (1, sx_J (wyS M d)), (0, sx_A (53))]) C d_Mo_ways_16 (by rw [hnL]; decide) rfl ?_
      refine sx_sub [0, 1, 2, 3, 4] rfl ?_
      refine lp2_Mo_ways M hT hr d (by omega) C Rr hnL (hk := ?_) _ 0 (Nat.lt_succ_self _) (Nat.zero_le _)
      have en := hr.2.2.2.1 d (by omega)
      have eg := hT.2.2.2.1 d (by omega)
      refine sx_aload_n C 3 d_Mo_ways_64 rfl rfl ?_
      refine sx_getr C f_Mo_7 54 (by decide) rfl rfl d_Mo_ways_65 ?_
      refine sx_iload_n C 1 d_Mo_ways_68 rfl rfl ?_
      refine sx_laload C d (by decide) rfl rfl rfl (by omega) (by decide) d_Mo_ways_69 ?_
      refine sx_lconst C 0 rfl d_Mo_ways_70 ?_
      refine sx_lcmp_le C 82 ⟨by omega, by omega⟩ ⟨by omega, by omega⟩ d_Mo_ways_71 d_Mo_ways_72 (by decide) (fun c72 => ?_) (fun c72 => ?_)
      · refine sx_lload_n C 2 d_Mo_ways_82 rfl rfl ?_
        rw [show wyS M d = wyS M (d + 1) from by show _ = (if 0 < M 2 d then wyS M d * crS M d (M 1 1).toNat else wyS M d); rw [if_neg (by omega)]]
        refine sx_lstore_n (lv' := [(1, sx_J (wyS M (d + 1))), (4, sx_J (crS M d (M 1 1).toNat)), (3, sx_I (((d : Nat) : Int))), (0, sx_A (53))]) C d_Mo_ways_83 rfl (by rw [hnL]; decide) rfl ?_
        refine sx_iinc (lv' := [(3, sx_I (((d + 1 : Nat) : Int))), (1, sx_J (wyS M (d + 1))), (4, sx_J (crS M d (M 1 1).toNat)), (0, sx_A (53))]) C 2 d_Mo_ways_84 rfl (by rw [hnL]; decide) rfl ?_
        refine sx_goto C 4 d_Mo_ways_87 (by decide) ?_
        refine sx_sub [0, 1, 3] rfl ?_
        exact ih (d + 1) (by omega) (by omega)
      · refine sx_lload_n C 2 d_Mo_ways_75 rfl rfl ?_
        refine sx_lload C 0 d_Mo_ways_76 rfl ?_
        refine sx_lmul C d_Mo_ways_78 ?_
        refine sx_goto C 83 d_Mo_ways_79 (by decide) ?_
        rw [show (wyS M d) * (crS M d (M 1 1).toNat) = wyS M (d + 1) from by show _ = (if 0 < M 2 d then wyS M d * crS M d (M 1 1).toNat else wyS M d); rw [if_pos (by omega)]]
        refine sx_lstore_n (lv' := [(1, sx_J (wyS M (d + 1))), (4, sx_J (crS M d (M 1 1).toNat)), (3, sx_I (((d : Nat) : Int))), (0, sx_A (53))]) C d_Mo_ways_83 rfl (by rw [hnL]; decide) rfl ?_
        refine sx_iinc (lv' := [(3, sx_I (((d + 1 : Nat) : Int))), (1, sx_J (wyS M (d + 1))), (4, sx_J (crS M d (M 1 1).toNat)), (0, sx_A (53))]) C 2 d_Mo_ways_84 rfl (by rw [hnL]; decide) rfl ?_
        refine sx_goto C 4 d_Mo_ways_87 (by decide) ?_
        refine sx_sub [0, 1, 3] rfl ?_
        exact ih (d + 1) (by omega) (by omega)
set_option maxRecDepth 100000 in
set_option maxHeartbeats 4000000 in
theorem ct_Mo_ways (l : Launch) (D : va_G) (tc : Nat → ClassId) (M : sx_M0) (hT : tw M) (hr : rT M) : sx_Met SC l D tc y_Mo_ways w_Mo_ways (rmk 1 40) [sx_A (53)] GL M (fun r G' M' => G' = GL ∧ M' = M ∧ r = some (sx_J (wyS M (M 1 0).toNat))) := by
  refine sx_enter (by decide) rfl (Nat.le_of_ble_eq_true rfl) (Ts := g_tbl) (fun _ h => List.mem_cons_of_mem _ h) (fun E C Rr hnm hnL => ?_)
  refine sx_lconst C 1 rfl d_Mo_ways_0 ?_
  refine sx_lstore_n (lv' := [(1, sx_J (1)), (0, sx_A (53))]) C d_Mo_ways_1 rfl (by rw [hnL]; decide) rfl ?_
  refine sx_iconst C d_Mo_ways_2 ?_
  refine sx_istore_n (lv' := [(3, sx_I (0)), (1, sx_J (1)), (0, sx_A (53))]) C d_Mo_ways_3 rfl (by rw [hnL]; decide) rfl ?_
  refine sx_sub [0, 1, 2] rfl ?_
  exact lp_Mo_ways M hT hr C Rr hnL _ 0 (Nat.lt_succ_self _) (Nat.zero_le _)
def nT (M : sx_M0) (d : Nat) : Nat → Int
  | 0 => -1
  | p + 1 => if rcS M d p ≠ -1 ∧ (nT M d p = -1 ∨ rcS M d p < nT M d p) then rcS M d p else nT M d p
def lT (M : sx_M0) : Nat → Int
  | 0 => 0
  | d + 1 => lT M d + (if 0 < M 2 d then M 2 d * nT M d (M 1 1).toNat else 0)
theorem nT_bd {M : sx_M0} (hT : tw M) {d : Nat} (hd : d < 6) : ∀ n, n ≤ 5 → -1 ≤ nT M d n ∧ nT M d n ≤ 10000
  | 0, _ => by simp [nT]
  | n + 1, h => by
    have ih := nT_bd hT hd n (by omega)
    have q := rcS_bd hT hd (show n < 5 by omega)
    show -1 ≤ (if _ then rcS M d n else nT M d n) ∧ (if _ then rcS M d n else nT M d n) ≤ 10000
    split <;> omega
set_option maxRecDepth 100000 in
set_option maxHeartbeats 4000000 in
theorem lp2_Mo_bound  (M : sx_M0) (hT : tw M) (hr : rT M) (d : Nat) (hd : d < (M 1 0).toNat) {E : sx_E} (C : sx_C SC g_tbl "SiteChoiceModel" c_Mo_bound E) (Rr : sx_Ret SC (some .long) (rmk 1 40) (fun r G' M' => G' = GL ∧ M' = M ∧ ∃ x : Int, r = some (sx_J x) ∧ ((x = lT M (M 1 0).toNat ∧ ∀ d, d < (M 1 0).toNat → 0 < M 2 d → nT M d (M 1 1).toNat ≠ -1) ∨ (x = -1 ∧ ∃ d, d < (M 1 0).toNat ∧ 0 < M 2 d ∧ nT M d (M 1 1).toNat = -1))) E) (hnL : sx_nL E = 9) (hk : sx_X SC E (0, 0) GL M 103 [(4, sx_J (nT M d (M 1 1).toNat)), (3, sx_I (((d : Nat) : Int))), (1, sx_J (lT M d)), (0, sx_A (53))] []) : ∀ (nF : Nat) (p : Nat), (M 1 1).toNat - p < nF → p ≤ (M 1 1).toNat → sx_X SC E (0, 0) GL M 31 [(6, sx_I (((p : Nat) : Int))), (4, sx_J (nT M d p)), (3, sx_I (((d : Nat) : Int))), (1, sx_J (lT M d)), (0, sx_A (53))] [] := by
  intro nF
  induction nF with
  | zero => intro p h; omega
  | succ nF ih =>
    intro p hn h1
    have g0 := hT.1
    have g1 := hT.2.1
    have r0 := hr.1
    have r1 := hr.2.1
    refine sx_iload C 0 d_Mo_bound_31 rfl ?_
    refine sx_aload_n C 4 d_Mo_bound_33 rfl rfl ?_
    refine sx_geti C f_Mo_77 (by decide) rfl d_Mo_bound_34 ?_
    refine sx_icmp_ge C 103 ⟨by omega, by omega⟩ ⟨by omega, by omega⟩ d_Mo_bound_37 (by decide) (fun c37 => ?_) (fun c37 => ?_)
    · refine sx_sub [1, 2, 3, 4] rfl ?_
      rw [show p = (M 1 1).toNat by omega]
      exact hk
    · obtain ⟨ep1, ep2, ep3, ep4, ep5, ep6⟩ := hr.2.2.2.2.2.2 p (by omega)
      have eb := hT.2.2.2.2.2.2.2.2.2.2.2 p (by omega)
      have q1 := hr.2.2.2.2.2.1 d p (by omega) (by omega)
      have q3 := hT.2.2.2.2.2.1 d p (by omega) (by omega)
      have q5 := nT_bd hT (d := d) (by omega) p (by omega)
      refine sx_aload_n C 4 d_Mo_bound_40 rfl rfl ?_
      refine sx_getr C f_Mo_35 62 (by decide) rfl rfl d_Mo_bound_41 ?_
      refine sx_iconst C d_Mo_bound_44 ?_
      refine sx_iload_n C 2 d_Mo_bound_45 rfl rfl ?_
      refine sx_imul C d_Mo_bound_46 ?_
      refine sx_iload C 0 d_Mo_bound_47 rfl ?_
      refine sx_iadd C d_Mo_bound_49 ?_
      refine sx_laload C (5 * d + p) (by decide) rfl rfl (by omega) (by omega) (by decide) d_Mo_bound_50 ?_
      refine sx_lstore (lv' := [(7, sx_J (M 62 (5 * d + p))), (6, sx_I (((p : Nat) : Int))), (4, sx_J (nT M d p)), (3, sx_I (((d : Nat) : Int))), (1, sx_J (lT M d)), (0, sx_A (53))]) C d_Mo_bound_51 (by rw [hnL]; decide) rfl ?_
      refine sx_aload_n C 5 d_Mo_bound_53 rfl rfl ?_
      refine sx_iload_n C 3 d_Mo_bound_54 rfl rfl ?_
      refine sx_iload C 1 d_Mo_bound_55 rfl ?_
      refine sx_callV (n := 71) (As := [sx_I (((d : Nat) : Int)), sx_I (((p : Nat) : Int))]) (st := []) C (ct_Mo_canGo _ _ _ M hT hr d p (by omega) (by omega)) rfl (by decide) rfl (cv_Mo_111 E C _ (by rw [Rr.2.2]; decide)) (Nat.le_of_ble_eq_true rfl) d_Mo_bound_57 (by rw [Rr.2.2]; decide) (by decide) rfl rfl rfl (fun r57 G57 M57 hpo _ => ?_)
      obtain ⟨e1, e2, b57, rfl, hb57⟩ := hpo
      rw [e1, e2]
      show sx_X SC E (0, 0) GL M 60 [(7, sx_J (M 62 (5 * d + p))), (6, sx_I (((p : Nat) : Int))), (4, sx_J (nT M d p)), (3, sx_I (((d : Nat) : Int))), (1, sx_J (lT M d)), (0, sx_A (53))] [sx_I (b57)]
      refine sx_if_eq C 93 ⟨by omega, by omega⟩ d_Mo_bound_60 (by decide) (fun c60 => ?_) (fun c60 => ?_)
      · refine sx_lload C 2 d_Mo_bound_93 rfl ?_
        refine sx_sub [1, 2, 3, 4, 5] rfl ?_
        rw [show nT M d p = nT M d (p + 1) from by show _ = (if rcS M d p ≠ -1 ∧ (nT M d p = -1 ∨ rcS M d p < nT M d p) then rcS M d p else nT M d p); first | (rw [if_neg (fun z => z.1 (rc_no (by first | (left; omega) | (right; rcases hb57 with ⟨z1, z2⟩ | ⟨z1, z2⟩; (exfalso; omega); exact z2))))]) | (have ry := rc_yes (M := M) (d := d) (p := p) (by omega) (by omega) (by omega) (by rcases hb57 with ⟨z1, z2⟩ | ⟨z1, z2⟩; (exact z2); (exfalso; omega)); rw [if_neg (fun z => by have := ry.1; have := z.2; omega)])]
        refine sx_lstore (lv' := [(4, sx_J (nT M d (p + 1))), (6, sx_I (((p : Nat) : Int))), (3, sx_I (((d : Nat) : Int))), (1, sx_J (lT M d)), (0, sx_A (53))]) C d_Mo_bound_95 (by rw [hnL]; decide) rfl ?_
        refine sx_iinc (lv' := [(6, sx_I (((p + 1 : Nat) : Int))), (4, sx_J (nT M d (p + 1))), (3, sx_I (((d : Nat) : Int))), (1, sx_J (lT M d)), (0, sx_A (53))]) C 1 d_Mo_bound_97 rfl (by rw [hnL]; decide) rfl ?_
        refine sx_goto C 31 d_Mo_bound_100 (by decide) ?_
        refine sx_sub [0, 1, 2, 3, 4] rfl ?_
        exact ih (p + 1) (by omega) (by omega)
      · refine sx_aload_n C 5 d_Mo_bound_63 rfl rfl ?_
        refine sx_getr C f_Mo_31 61 (by decide) rfl rfl d_Mo_bound_64 ?_
        refine sx_iload C 1 d_Mo_bound_67 rfl ?_
        refine sx_zaload C p (by decide) rfl rfl rfl (by omega) (by decide) d_Mo_bound_69 ?_
        refine sx_if_ne C 93 ⟨by omega, by omega⟩ d_Mo_bound_70 (by decide) (fun c70 => ?_) (fun c70 => ?_)
        · refine sx_lload C 2 d_Mo_bound_93 rfl ?_
          refine sx_sub [1, 2, 3, 4, 5] rfl ?_
          rw [show nT M d p = nT M d (p + 1) from by show _ = (if rcS M d p ≠ -1 ∧ (nT M d p = -1 ∨ rcS M d p < nT M d p) then rcS M d p else nT M d p); first | (rw [if_neg (fun z => z.1 (rc_no (by first | (left; omega) | (right; rcases hb57 with ⟨z1, z2⟩ | ⟨z1, z2⟩; (exfalso; omega); exact z2))))]) | (have ry := rc_yes (M := M) (d := d) (p := p) (by omega) (by omega) (by omega) (by rcases hb57 with ⟨z1, z2⟩ | ⟨z1, z2⟩; (exact z2); (exfalso; omega)); rw [if_neg (fun z => by have := ry.1; have := z.2; omega)])]
          refine sx_lstore (lv' := [(4, sx_J (nT M d (p + 1))), (6, sx_I (((p : Nat) : Int))), (3, sx_I (((d : Nat) : Int))), (1, sx_J (lT M d)), (0, sx_A (53))]) C d_Mo_bound_95 (by rw [hnL]; decide) rfl ?_
          refine sx_iinc (lv' := [(6, sx_I (((p + 1 : Nat) : Int))), (4, sx_J (nT M d (p + 1))), (3, sx_I (((d : Nat) : Int))), (1, sx_J (lT M d)), (0, sx_A (53))]) C 1 d_Mo_bound_97 rfl (by rw [hnL]; decide) rfl ?_
          refine sx_goto C 31 d_Mo_bound_100 (by decide) ?_
          refine sx_sub [0, 1, 2, 3, 4] rfl ?_
          exact ih (p + 1) (by omega) (by omega)
        · refine sx_lload C 2 d_Mo_bound_73 rfl ?_
          refine sx_lconst C 0 rfl d_Mo_bound_75 ?_
          refine sx_lcmp_lt C 88 ⟨by omega, by omega⟩ ⟨by omega, by omega⟩ d_Mo_bound_76 d_Mo_bound_77 (by decide) (fun c77 => ?_) (fun c77 => ?_)
          · refine sx_lload C 0 d_Mo_bound_88 rfl ?_
            refine sx_goto C 95 d_Mo_bound_90 (by decide) ?_
            refine sx_sub [1, 2, 3, 4, 5] rfl ?_
            rw [show M 62 (5 * d + p) = nT M d (p + 1) from by show _ = (if rcS M d p ≠ -1 ∧ (nT M d p = -1 ∨ rcS M d p < nT M d p) then rcS M d p else nT M d p); have ry := rc_yes (M := M) (d := d) (p := p) (by omega) (by omega) (by omega) (by rcases hb57 with ⟨z1, z2⟩ | ⟨z1, z2⟩; (exact z2); (exfalso; omega)); rw [if_pos ⟨ry.2, by have := ry.1; omega⟩]; have := ry.1; omega]
            refine sx_lstore (lv' := [(4, sx_J (nT M d (p + 1))), (6, sx_I (((p : Nat) : Int))), (3, sx_I (((d : Nat) : Int))), (1, sx_J (lT M d)), (0, sx_A (53))]) C d_Mo_bound_95 (by rw [hnL]; decide) rfl ?_
            refine sx_iinc (lv' := [(6, sx_I (((p + 1 : Nat) : Int))), (4, sx_J (nT M d (p + 1))), (3, sx_I (((d : Nat) : Int))), (1, sx_J (lT M d)), (0, sx_A (53))]) C 1 d_Mo_bound_97 rfl (by rw [hnL]; decide) rfl ?_
            refine sx_goto C 31 d_Mo_bound_100 (by decide) ?_
            refine sx_sub [0, 1, 2, 3, 4] rfl ?_
            exact ih (p + 1) (by omega) (by omega)
          · refine sx_lload C 0 d_Mo_bound_80 rfl ?_
            refine sx_lload C 2 d_Mo_bound_82 rfl ?_
            refine sx_lcmp_ge C 93 ⟨by omega, by omega⟩ ⟨by omega, by omega⟩ d_Mo_bound_84 d_Mo_bound_85 (by decide) (fun c85 => ?_) (fun c85 => ?_)
            · refine sx_lload C 2 d_Mo_bound_93 rfl ?_
              refine sx_sub [1, 2, 3, 4, 5] rfl ?_
              rw [show nT M d p = nT M d (p + 1) from by show _ = (if rcS M d p ≠ -1 ∧ (nT M d p = -1 ∨ rcS M d p < nT M d p) then rcS M d p else nT M d p); first | (rw [if_neg (fun z => z.1 (rc_no (by first | (left; omega) | (right; rcases hb57 with ⟨z1, z2⟩ | ⟨z1, z2⟩; (exfalso; omega); exact z2))))]) | (have ry := rc_yes (M := M) (d := d) (p := p) (by omega) (by omega) (by omega) (by rcases hb57 with ⟨z1, z2⟩ | ⟨z1, z2⟩; (exact z2); (exfalso; omega)); rw [if_neg (fun z => by have := ry.1; have := z.2; omega)])]
              refine sx_lstore (lv' := [(4, sx_J (nT M d (p + 1))), (6, sx_I (((p : Nat) : Int))), (3, sx_I (((d : Nat) : Int))), (1, sx_J (lT M d)), (0, sx_A (53))]) C d_Mo_bound_95 (by rw [hnL]; decide) rfl ?_
              refine sx_iinc (lv' := [(6, sx_I (((p + 1 : Nat) : Int))), (4, sx_J (nT M d (p + 1))), (3, sx_I (((d : Nat) : Int))), (1, sx_J (lT M d)), (0, sx_A (53))]) C 1 d_Mo_bound_97 rfl (by rw [hnL]; decide) rfl ?_
              refine sx_goto C 31 d_Mo_bound_100 (by decide) ?_
              refine sx_sub [0, 1, 2, 3, 4] rfl ?_
              exact ih (p + 1) (by omega) (by omega)
            · refine sx_lload C 0 d_Mo_bound_88 rfl ?_
              refine sx_goto C 95 d_Mo_bound_90 (by decide) ?_
              refine sx_sub [1, 2, 3, 4, 5] rfl ?_
              rw [show M 62 (5 * d + p) = nT M d (p + 1) from by show _ = (if rcS M d p ≠ -1 ∧ (nT M d p = -1 ∨ rcS M d p < nT M d p) then rcS M d p else nT M d p); have ry := rc_yes (M := M) (d := d) (p := p) (by omega) (by omega) (by omega) (by rcases hb57 with ⟨z1, z2⟩ | ⟨z1, z2⟩; (exact z2); (exfalso; omega)); rw [if_pos ⟨ry.2, by have := ry.1; omega⟩]; have := ry.1; omega]
              refine sx_lstore (lv' := [(4, sx_J (nT M d (p + 1))), (6, sx_I (((p : Nat) : Int))), (3, sx_I (((d : Nat) : Int))), (1, sx_J (lT M d)), (0, sx_A (53))]) C d_Mo_bound_95 (by rw [hnL]; decide) rfl ?_
              refine sx_iinc (lv' := [(6, sx_I (((p + 1 : Nat) : Int))), (4, sx_J (nT M d (p + 1))), (3, sx_I (((d : Nat) : Int))), (1, sx_J (lT M d)), (0, sx_A (53))]) C 1 d_Mo_bound_97 rfl (by rw [hnL]; decide) rfl ?_
              refine sx_goto C 31 d_Mo_bound_100 (by decide) ?_
              refine sx_sub [0, 1, 2, 3, 4] rfl ?_
              exact ih (p + 1) (by omega) (by omega)
set_option maxRecDepth 100000 in
set_option maxHeartbeats 4000000 in
theorem lp_Mo_bound  (M : sx_M0) (hT : tw M) (hr : rT M) {E : sx_E} (C : sx_C SC g_tbl "SiteChoiceModel" c_Mo_bound E) (Rr : sx_Ret SC (some .long) (rmk 1 40) (fun r G' M' => G' = GL ∧ M' = M ∧ ∃ x : Int, r = some (sx_J x) ∧ ((x = lT M (M 1 0).toNat ∧ ∀ d, d < (M 1 0).toNat → 0 < M 2 d → nT M d (M 1 1).toNat ≠ -1) ∨ (x = -1 ∧ ∃ d, d < (M 1 0).toNat ∧ 0 < M 2 d ∧ nT M d (M 1 1).toNat = -1))) E) (hnL : sx_nL E = 9) : ∀ (nF : Nat) (d : Nat), (M 1 0).toNat - d < nF → (∀ e, e < d → 0 < M 2 e → nT M e (M 1 1).toNat ≠ -1) → d ≤ (M 1 0).toNat → sx_X SC E (0, 0) GL M 4 [(3, sx_I (((d : Nat) : Int))), (1, sx_J (lT M d)), (0, sx_A (53))] [] := by
  intro nF
  induction nF with
  | zero => intro d h; omega
  | succ nF ih =>
    intro d hn h1 h2
    have g0 := hT.1
    have g1 := hT.2.1
    have r0 := hr.1
    have r1 := hr.2.1
    refine sx_iload_n C 0 d_Mo_bound_4 rfl rfl ?_
    refine sx_aload_n C 2 d_Mo_bound_5 rfl rfl ?_
    refine sx_geti C f_Mo_73 (by decide) rfl d_Mo_bound_6 ?_
    refine sx_icmp_ge C 132 ⟨by omega, by omega⟩ ⟨by omega, by omega⟩ d_Mo_bound_9 (by decide) (fun c9 => ?_) (fun c9 => ?_)
    · refine sx_lload_n C 1 d_Mo_bound_132 rfl rfl ?_
      refine sx_lreturn C Rr rfl d_Mo_bound_133 ?_
      have e : d = (M 1 0).toNat := by omega
      rw [e] at h1 ⊢
      exact ⟨rfl, rfl, _, rfl, Or.inl ⟨rfl, h1⟩⟩
    · have en := hr.2.2.2.1 d (by omega)
      have eg := hT.2.2.2.1 d (by omega)
      refine sx_aload_n C 2 d_Mo_bound_12 rfl rfl ?_
      refine sx_getr C f_Mo_7 54 (by decide) rfl rfl d_Mo_bound_13 ?_
      refine sx_iload_n C 0 d_Mo_bound_16 rfl rfl ?_
      refine sx_laload C d (by decide) rfl rfl rfl (by omega) (by decide) d_Mo_bound_17 ?_
      refine sx_lconst C 0 rfl d_Mo_bound_18 ?_
      refine sx_lcmp_le C 126 ⟨by omega, by omega⟩ ⟨by omega, by omega⟩ d_Mo_bound_19 d_Mo_bound_20 (by decide) (fun c20 => ?_) (fun c20 => ?_)
      · refine sx_iinc (lv' := [(3, sx_I (((d + 1 : Nat) : Int))), (1, sx_J (lT M d)), (0, sx_A (53))]) C 0 d_Mo_bound_126 rfl (by rw [hnL]; decide) rfl ?_
        refine sx_goto C 4 d_Mo_bound_129 (by decide) ?_
        rw [show lT M d = lT M (d + 1) from by show _ = lT M d + (if 0 < M 2 d then M 2 d * nT M d (M 1 1).toNat else 0); rw [if_neg (by omega), Int.add_zero]]
        refine sx_sub [0, 1, 2] rfl ?_
        exact ih (d + 1) (by omega) (fun e he hp => by rcases Nat.lt_or_ge e d with y | y; exact h1 e y hp; rw [show e = d by omega] at hp; omega) (by omega)
      · refine sx_ldc2 (v := (-1)) C (-1) (tb_ 526 (by decide +kernel) rfl) (by decide) d_Mo_bound_23 ?_
        refine sx_lstore (lv' := [(4, sx_J ((-1))), (3, sx_I (((d : Nat) : Int))), (1, sx_J (lT M d)), (0, sx_A (53))]) C d_Mo_bound_26 (by rw [hnL]; decide) rfl ?_
        refine sx_iconst C d_Mo_bound_28 ?_
        refine sx_istore (lv' := [(6, sx_I (0)), (4, sx_J ((-1))), (3, sx_I (((d : Nat) : Int))), (1, sx_J (lT M d)), (0, sx_A (53))]) C d_Mo_bound_29 (by rw [hnL]; decide) rfl ?_
        refine sx_sub [0, 1, 2, 3, 4] rfl ?_
        refine lp2_Mo_bound M hT hr d (by omega) C Rr hnL (hk := ?_) _ 0 (Nat.lt_succ_self _) (Nat.zero_le _)
        have q5 := nT_bd hT (d := d) (by omega) (M 1 1).toNat (by omega)
        refine sx_lload C 0 d_Mo_bound_103 rfl ?_
        refine sx_lconst C 0 rfl d_Mo_bound_105 ?_
        refine sx_lcmp_ge C 114 ⟨by omega, by omega⟩ ⟨by omega, by omega⟩ d_Mo_bound_106 d_Mo_bound_107 (by decide) (fun c107 => ?_) (fun c107 => ?_)
        · refine sx_lload_n C 2 d_Mo_bound_114 rfl rfl ?_
          refine sx_aload_n C 3 d_Mo_bound_115 rfl rfl ?_
          refine sx_getr C f_Mo_7 54 (by decide) rfl rfl d_Mo_bound_116 ?_
          refine sx_iload_n C 1 d_Mo_bound_119 rfl rfl ?_
          refine sx_laload C d (by decide) rfl rfl rfl (by omega) (by decide) d_Mo_bound_120 ?_
          refine sx_lload C 0 d_Mo_bound_121 rfl ?_
          refine sx_lmul C d_Mo_bound_123 ?_
          refine sx_ladd C d_Mo_bound_124 ?_
          refine sx_lstore_n (lv' := [(1, sx_J ((lT M d) + ((M 54 d) * (nT M d (M 1 1).toNat)))), (4, sx_J (nT M d (M 1 1).toNat)), (3, sx_I (((d : Nat) : Int))), (0, sx_A (53))]) C d_Mo_bound_125 rfl (by rw [hnL]; decide) rfl ?_
          refine sx_iinc (lv' := [(3, sx_I (((d + 1 : Nat) : Int))), (1, sx_J ((lT M d) + ((M 54 d) * (nT M d (M 1 1).toNat)))), (4, sx_J (nT M d (M 1 1).toNat)), (0, sx_A (53))]) C 2 d_Mo_bound_126 rfl (by rw [hnL]; decide) rfl ?_
          refine sx_goto C 4 d_Mo_bound_129 (by decide) ?_
          rw [show (lT M d) + ((M 54 d) * (nT M d (M 1 1).toNat)) = lT M (d + 1) from by show _ = lT M d + (if 0 < M 2 d then M 2 d * nT M d (M 1 1).toNat else 0); rw [if_pos (by omega), en]]
          refine sx_sub [0, 1, 3] rfl ?_
          exact ih (d + 1) (by omega) (fun e he hp => by rcases Nat.lt_or_ge e d with y | y; exact h1 e y hp; rw [show e = d by omega]; omega) (by omega)
        · refine sx_ldc2 (v := (-1)) C (-1) (tb_ 526 (by decide +kernel) rfl) (by decide) d_Mo_bound_110 ?_
          refine sx_lreturn C Rr rfl d_Mo_bound_113 ?_
          exact ⟨rfl, rfl, -1, rfl, Or.inr ⟨rfl, d, by omega, by omega, by omega⟩⟩
set_option maxRecDepth 100000 in
set_option maxHeartbeats 4000000 in
theorem ct_Mo_bound (l : Launch) (D : va_G) (tc : Nat → ClassId) (M : sx_M0) (hT : tw M) (hr : rT M) : sx_Met SC l D tc y_Mo_bound w_Mo_bound (rmk 1 40) [sx_A (53)] GL M (fun r G' M' => G' = GL ∧ M' = M ∧ ∃ x : Int, r = some (sx_J x) ∧ ((x = lT M (M 1 0).toNat ∧ ∀ d, d < (M 1 0).toNat → 0 < M 2 d → nT M d (M 1 1).toNat ≠ -1) ∨ (x = -1 ∧ ∃ d, d < (M 1 0).toNat ∧ 0 < M 2 d ∧ nT M d (M 1 1).toNat = -1))) := by
  refine sx_enter (by decide) rfl (Nat.le_of_ble_eq_true rfl) (Ts := g_tbl) (fun _ h => List.mem_cons_of_mem _ h) (fun E C Rr hnm hnL => ?_)
  refine sx_lconst C 0 rfl d_Mo_bound_0 ?_
  refine sx_lstore_n (lv' := [(1, sx_J (0)), (0, sx_A (53))]) C d_Mo_bound_1 rfl (by rw [hnL]; decide) rfl ?_
  refine sx_iconst C d_Mo_bound_2 ?_
  refine sx_istore_n (lv' := [(3, sx_I (0)), (1, sx_J (0)), (0, sx_A (53))]) C d_Mo_bound_3 rfl (by rw [hnL]; decide) rfl ?_
  refine sx_sub [0, 1, 2] rfl ?_
  exact lp_Mo_bound M hT hr C Rr hnL _ 0 (Nat.lt_succ_self _) (fun e he => absurd he (Nat.not_lt_zero e)) (Nat.zero_le _)
set_option maxRecDepth 100000 in
set_option maxHeartbeats 4000000 in
theorem lp_Mo_size  (M : sx_M0) (u : Nat) (hu : u < 64) {E : sx_E} (C : sx_C SC g_tbl "SiteChoiceModel" c_Mo_size E) (Rr : sx_Ret SC (some .int) (rmk 1 40) (fun r G' M' => G' = GL ∧ M' = M ∧ r = some (sx_I ((bcS u : Nat) : Int))) E) (hnL : sx_nL E = 3) : ∀ (nF : Nat) (k : Nat), 6 - k < nF → k ≤ 6 → sx_X SC E (0, 0) GL M 4 [(2, sx_I (((k : Nat) : Int))), (1, sx_I (((pcS u k : Nat) : Int))), (0, sx_I (((u : Nat) : Int)))] [] := by
  intro nF
  induction nF with
  | zero => intro k h; omega
  | succ nF ih =>
    intro k hn h1
    refine sx_iload_n C 0 d_Mo_size_4 rfl rfl ?_
    refine sx_bipush C d_Mo_size_5 (by decide) ?_
    refine sx_icmp_ge C 32 ⟨by omega, by omega⟩ ⟨by omega, by omega⟩ d_Mo_size_7 (by decide) (fun c7 => ?_) (fun c7 => ?_)
    · refine sx_iload_n C 1 d_Mo_size_32 rfl rfl ?_
      refine sx_ireturn C Rr rfl d_Mo_size_33 ?_
      rw [show k = 6 by omega]
      exact ⟨rfl, rfl, rfl⟩
    · refine sx_iload_n C 2 d_Mo_size_10 rfl rfl ?_
      refine sx_iload_n C 0 d_Mo_size_11 rfl rfl ?_
      refine sx_callS (n := 71) (As := [sx_I (((u : Nat) : Int)), sx_I (((k : Nat) : Int))]) (st := []) C (ct_Mo_has _ _ _ M u k (by omega) (by omega)) (cv_Mo_105 E C _ (by rw [Rr.2.2]; decide)) (Nat.le_of_ble_eq_true rfl) d_Mo_size_12 (by rw [Rr.2.2]; decide) (by decide) rfl rfl rfl (fun r12 G12 M12 hpo _ => ?_)
      obtain ⟨e1, e2, b12, rfl, hb12⟩ := hpo
      rw [e1, e2]
      show sx_X SC E (0, 0) GL M 15 [(2, sx_I (((k : Nat) : Int))), (1, sx_I (((pcS u k : Nat) : Int))), (0, sx_I (((u : Nat) : Int)))] [sx_I (b12)]
      refine sx_if_eq C 24 ⟨by omega, by omega⟩ d_Mo_size_15 (by decide) (fun c15 => ?_) (fun c15 => ?_)
      · refine sx_iload_n C 1 d_Mo_size_24 rfl rfl ?_
        refine sx_istore_n (lv' := [(1, sx_I (((pcS u k : Nat) : Int))), (2, sx_I (((k : Nat) : Int))), (0, sx_I (((u : Nat) : Int)))]) C d_Mo_size_25 rfl (by rw [hnL]; decide) rfl ?_
        refine sx_iinc (lv' := [(2, sx_I (((k + 1 : Nat) : Int))), (1, sx_I (((pcS u k : Nat) : Int))), (0, sx_I (((u : Nat) : Int)))]) C 1 d_Mo_size_26 rfl (by rw [hnL]; decide) rfl ?_
        refine sx_goto C 4 d_Mo_size_29 (by decide) ?_
        rw [show ((pcS u k : Nat) : Int) = ((pcS u (k + 1) : Nat) : Int) from by show _ = ((pcS u k + (if u.testBit k = true then 1 else 0) : Nat) : Int); rw [if_neg (by rcases hb12 with ⟨z1, z2⟩ | ⟨z1, z2⟩; (exfalso; omega); exact z2)]; rfl]
        refine sx_sub [0, 1, 2] rfl ?_
        exact ih (k + 1) (by omega) (by omega)
      · refine sx_iload_n C 1 d_Mo_size_18 rfl rfl ?_
        refine sx_iconst C d_Mo_size_19 ?_
        refine sx_iadd C d_Mo_size_20 ?_
        refine sx_goto C 25 d_Mo_size_21 (by decide) ?_
        refine sx_istore_n (lv' := [(1, sx_I (((pcS u k : Nat) : Int) + 1)), (2, sx_I (((k : Nat) : Int))), (0, sx_I (((u : Nat) : Int)))]) C d_Mo_size_25 rfl (by rw [hnL]; decide) rfl ?_
        refine sx_iinc (lv' := [(2, sx_I (((k + 1 : Nat) : Int))), (1, sx_I (((pcS u k : Nat) : Int) + 1)), (0, sx_I (((u : Nat) : Int)))]) C 1 d_Mo_size_26 rfl (by rw [hnL]; decide) rfl ?_
        refine sx_goto C 4 d_Mo_size_29 (by decide) ?_
        rw [show ((pcS u k : Nat) : Int) + 1 = ((pcS u (k + 1) : Nat) : Int) from by show _ = ((pcS u k + (if u.testBit k = true then 1 else 0) : Nat) : Int); rw [if_pos (by rcases hb12 with ⟨z1, z2⟩ | ⟨z1, z2⟩; (exact z2); (exfalso; omega))]; rfl]
        refine sx_sub [0, 1, 2] rfl ?_
        exact ih (k + 1) (by omega) (by omega)
set_option maxRecDepth 100000 in
set_option maxHeartbeats 4000000 in
theorem ct_Mo_size (l : Launch) (D : va_G) (tc : Nat → ClassId) (M : sx_M0) (u : Nat) (hu : u < 64) : sx_Met SC l D tc y_Mo_size w_Mo_size (rmk 1 40) [sx_I (((u : Nat) : Int))] GL M (fun r G' M' => G' = GL ∧ M' = M ∧ r = some (sx_I ((bcS u : Nat) : Int))) := by
  refine sx_enter (by decide) rfl (Nat.le_of_ble_eq_true rfl) (Ts := g_tbl) (fun _ h => List.mem_cons_of_mem _ h) (fun E C Rr hnm hnL => ?_)
  refine sx_iconst C d_Mo_size_0 ?_
  refine sx_istore_n (lv' := [(1, sx_I (0)), (0, sx_I (((u : Nat) : Int)))]) C d_Mo_size_1 rfl (by rw [hnL]; decide) rfl ?_
  refine sx_iconst C d_Mo_size_2 ?_
  refine sx_istore_n (lv' := [(2, sx_I (0)), (1, sx_I (0)), (0, sx_I (((u : Nat) : Int)))]) C d_Mo_size_3 rfl (by rw [hnL]; decide) rfl ?_
  refine sx_sub [0, 1, 2] rfl ?_
  exact lp_Mo_size M u hu C Rr hnL _ 0 (Nat.lt_succ_self _) (by decide)
def kyS (u : Nat) : Nat := (if u.testBit 0 = true then 32 else 0) + (if u.testBit 1 = true then 16 else 0) + (if u.testBit 2 = true then 8 else 0) + (if u.testBit 3 = true then 4 else 0) + (if u.testBit 4 = true then 2 else 0) + (if u.testBit 5 = true then 1 else 0)
/-- do a and b have the same of the first k? -/
def smB (a b : Nat) : Nat → Bool
  | 0 => true
  | k + 1 => smB a b k && (a.testBit k == b.testBit k)
theorem bf_y0 : ∀ a, a < 64 → ∀ b, b < 64 → ∀ k, k < 6 → (smB a b k && a.testBit k && !b.testBit k) = true → kyS b < kyS a := by decide +kernel
theorem bf_yes (a : Nat) (ha : a < 64) (b : Nat) (hb : b < 64) (k : Nat) (hk : k < 6) (h1 : smB a b k = true) (h2 : a.testBit k = true) (h3 : b.testBit k = false) : kyS b < kyS a := bf_y0 a ha b hb k hk (by rw [h1, h2, h3]; rfl)
theorem bf_eq : ∀ a, a < 64 → ∀ b, b < 64 → smB a b 6 = true → kyS a = kyS b := by decide +kernel
theorem ky_inj : ∀ a, a < 64 → ∀ b, b < 64 → kyS a = kyS b → a = b := by decide +kernel
theorem smB_symm {a b : Nat} : ∀ {k : Nat}, smB a b k = true → smB b a k = true
  | 0, _ => rfl
  | k + 1, h => by
    unfold smB at h ⊢
    rw [Bool.and_eq_true] at h ⊢
    exact ⟨smB_symm h.1, by rw [beq_iff_eq] at h ⊢; exact h.2.symm⟩
theorem sm_step {a b k : Nat} {x y : Int} (h : smB a b k = true) (hx : (x = 1 ∧ a.testBit k = true) ∨ (x = 0 ∧ ¬ a.testBit k = true)) (hy : (y = 1 ∧ b.testBit k = true) ∨ (y = 0 ∧ ¬ b.testBit k = true)) (e : x = y) : smB a b (k + 1) = true := by
  unfold smB
  rw [h, Bool.true_and, beq_iff_eq]
  rcases hx with ⟨x1, x2⟩ | ⟨x1, x2⟩ <;> rcases hy with ⟨y1, y2⟩ | ⟨y1, y2⟩
  · rw [x2, y2]
  · omega
  · omega
  · rw [Bool.eq_false_iff.mpr x2, Bool.eq_false_iff.mpr y2]
set_option maxRecDepth 100000 in
set_option maxHeartbeats 4000000 in
theorem lp_Mo_isBefore  (M : sx_M0) (a b : Nat) (ha : a < 64) (hb : b < 64) {E : sx_E} (C : sx_C SC g_tbl "SiteChoiceModel" c_Mo_isBefore E) (Rr : sx_Ret SC (some .boolean) (rmk 1 40) (fun r G' M' => G' = GL ∧ M' = M ∧ bz (kyS b < kyS a) r) E) (hnL : sx_nL E = 3) : ∀ (nF : Nat) (k : Nat), 6 - k < nF → smB a b k = true → k ≤ 6 → sx_X SC E (0, 0) GL M 2 [(2, sx_I (((k : Nat) : Int))), (0, sx_I (((a : Nat) : Int))), (1, sx_I (((b : Nat) : Int)))] [] := by
  intro nF
  induction nF with
  | zero => intro k h; omega
  | succ nF ih =>
    intro k hn h1 h2
    refine sx_iload_n C 0 d_Mo_isBefore_2 rfl rfl ?_
    refine sx_bipush C d_Mo_isBefore_3 (by decide) ?_
    refine sx_icmp_ge C 33 ⟨by omega, by omega⟩ ⟨by omega, by omega⟩ d_Mo_isBefore_5 (by decide) (fun c5 => ?_) (fun c5 => ?_)
    · refine sx_iconst C d_Mo_isBefore_33 ?_
      refine sx_zreturn C Rr (by omega) rfl d_Mo_isBefore_34 ?_
      rw [show k = 6 by omega] at h1
      exact ⟨rfl, rfl, 0, rfl, Or.inr ⟨rfl, by have := bf_eq a ha b hb h1; omega⟩⟩
    · refine sx_iload_n C 1 d_Mo_isBefore_8 rfl rfl ?_
      refine sx_iload_n C 0 d_Mo_isBefore_9 rfl rfl ?_
      refine sx_callS (n := 71) (As := [sx_I (((a : Nat) : Int)), sx_I (((k : Nat) : Int))]) (st := []) C (ct_Mo_has _ _ _ M a k (by omega) (by omega)) (cv_Mo_105 E C _ (by rw [Rr.2.2]; decide)) (Nat.le_of_ble_eq_true rfl) d_Mo_isBefore_10 (by rw [Rr.2.2]; decide) (by decide) rfl rfl rfl (fun r10 G10 M10 hpo _ => ?_)
      obtain ⟨e1, e2, b10, rfl, hb10⟩ := hpo
      rw [e1, e2]
      show sx_X SC E (0, 0) GL M 13 [(2, sx_I (((k : Nat) : Int))), (0, sx_I (((a : Nat) : Int))), (1, sx_I (((b : Nat) : Int)))] [sx_I (b10)]
      refine sx_iload_n C 2 d_Mo_isBefore_13 rfl rfl ?_
      refine sx_iload_n C 0 d_Mo_isBefore_14 rfl rfl ?_
      refine sx_callS (n := 71) (As := [sx_I (((b : Nat) : Int)), sx_I (((k : Nat) : Int))]) (st := [sx_I (b10)]) C (ct_Mo_has _ _ _ M b k (by omega) (by omega)) (cv_Mo_105 E C _ (by rw [Rr.2.2]; decide)) (Nat.le_of_ble_eq_true rfl) d_Mo_isBefore_15 (by rw [Rr.2.2]; decide) (by decide) rfl rfl rfl (fun r15 G15 M15 hpo _ => ?_)
      obtain ⟨e1, e2, b15, rfl, hb15⟩ := hpo
      rw [e1, e2]
      show sx_X SC E (0, 0) GL M 18 [(2, sx_I (((k : Nat) : Int))), (0, sx_I (((a : Nat) : Int))), (1, sx_I (((b : Nat) : Int)))] [sx_I (b15), sx_I (b10)]
      refine sx_icmp_eq C 27 ⟨by omega, by omega⟩ ⟨by omega, by omega⟩ d_Mo_isBefore_18 (by decide) (fun c18 => ?_) (fun c18 => ?_)
      · refine sx_iinc (lv' := [(2, sx_I (((k + 1 : Nat) : Int))), (0, sx_I (((a : Nat) : Int))), (1, sx_I (((b : Nat) : Int)))]) C 0 d_Mo_isBefore_27 rfl (by rw [hnL]; decide) rfl ?_
        refine sx_goto C 2 d_Mo_isBefore_30 (by decide) ?_
        refine sx_sub [0, 1, 2] rfl ?_
        exact ih (k + 1) (by omega) (sm_step h1 hb10 hb15 (by omega)) (by omega)
      · refine sx_iload_n C 1 d_Mo_isBefore_21 rfl rfl ?_
        refine sx_iload_n C 0 d_Mo_isBefore_22 rfl rfl ?_
        refine sx_callS (n := 71) (As := [sx_I (((a : Nat) : Int)), sx_I (((k : Nat) : Int))]) (st := []) C (ct_Mo_has _ _ _ M a k (by omega) (by omega)) (cv_Mo_105 E C _ (by rw [Rr.2.2]; decide)) (Nat.le_of_ble_eq_true rfl) d_Mo_isBefore_23 (by rw [Rr.2.2]; decide) (by decide) rfl rfl rfl (fun r23 G23 M23 hpo _ => ?_)
        obtain ⟨e1, e2, b23, rfl, hb23⟩ := hpo
        rw [e1, e2]
        show sx_X SC E (0, 0) GL M 26 [(2, sx_I (((k : Nat) : Int))), (0, sx_I (((a : Nat) : Int))), (1, sx_I (((b : Nat) : Int)))] [sx_I (b23)]
        refine sx_zreturn C Rr (by omega) rfl d_Mo_isBefore_26 ?_
        refine ⟨rfl, rfl, b23, rfl, ?_⟩
        rcases hb10 with ⟨z1, z2⟩ | ⟨z1, z2⟩
        · have z3 : b.testBit k = false := by rcases hb15 with ⟨y1, y2⟩ | ⟨y1, y2⟩; (exfalso; omega); (exact Bool.eq_false_iff.mpr y2)
          rcases hb23 with ⟨y1, y2⟩ | ⟨y1, y2⟩
          · exact Or.inl ⟨y1, bf_yes a ha b hb k (by omega) h1 z2 z3⟩
          · exact absurd z2 y2
        · have z3 : b.testBit k = true := by rcases hb15 with ⟨y1, y2⟩ | ⟨y1, y2⟩; (exact y2); (exfalso; omega)
          rcases hb23 with ⟨y1, y2⟩ | ⟨y1, y2⟩
          · exact absurd y2 z2
          · exact Or.inr ⟨y1, by have := bf_yes b hb a ha k (by omega) (smB_symm h1) z3 (Bool.eq_false_iff.mpr z2); omega⟩
set_option maxRecDepth 100000 in
set_option maxHeartbeats 4000000 in
theorem ct_Mo_isBefore (l : Launch) (D : va_G) (tc : Nat → ClassId) (M : sx_M0) (a b : Nat) (ha : a < 64) (hb : b < 64) : sx_Met SC l D tc y_Mo_isBefore w_Mo_isBefore (rmk 1 40) [sx_I (((a : Nat) : Int)), sx_I (((b : Nat) : Int))] GL M (fun r G' M' => G' = GL ∧ M' = M ∧ bz (kyS b < kyS a) r) := by
  refine sx_enter (by decide) rfl (Nat.le_of_ble_eq_true rfl) (Ts := g_tbl) (fun _ h => List.mem_cons_of_mem _ h) (fun E C Rr hnm hnL => ?_)
  refine sx_iconst C d_Mo_isBefore_0 ?_
  refine sx_istore_n (lv' := [(2, sx_I (0)), (0, sx_I (((a : Nat) : Int))), (1, sx_I (((b : Nat) : Int)))]) C d_Mo_isBefore_1 rfl (by rw [hnL]; decide) rfl ?_
  refine sx_sub [0, 1, 2] rfl ?_
  exact lp_Mo_isBefore M a b ha hb C Rr hnL _ 0 (Nat.lt_succ_self _) rfl (by decide)
set_option maxRecDepth 100000 in
set_option maxHeartbeats 4000000 in
theorem lp_Mo_chosen  (M : sx_M0) (hP : 0 ≤ M 53 1 ∧ M 53 1 ≤ 5) (hz : M 53 12 = 0 ∨ M 53 12 = 1) (hh : ∀ d, d < 6 → sx_r32 (M 63 d)) (p : Int) (hx : sx_r32 p) {E : sx_E} (C : sx_C SC g_tbl "SiteChoiceModel" c_Mo_chosen E) (Rr : sx_Ret SC (some .boolean) (rmk 1 40) (fun r G' M' => G' = GL ∧ M' = M ∧ bz ((0 ≤ p ∧ p < M 53 1) ∧ M 53 12 = 1 ∧ ∃ d : Nat, d < 6 ∧ M 63 d = p) r) E) (hnL : sx_nL E = 4) : ∀ (nF : Nat) (d : Nat) (q : Int), 6 - d < nF → ((q = 1 ∧ (0 ≤ p ∧ p < M 53 1) ∧ M 53 12 = 1 ∧ ∃ e : Nat, e < d ∧ M 63 e = p) ∨ (q = 0 ∧ ∀ e : Nat, e < d → M 63 e ≠ p)) → d ≤ 6 → sx_X SC E (0, 0) GL M 4 [(3, sx_I (((d : Nat) : Int))), (2, sx_I (q)), (0, sx_A (53)), (1, sx_I (p))] [] := by
  intro nF
  induction nF with
  | zero => intro d q h; omega
  | succ nF ih =>
    intro d q hn h1 h2
    refine sx_iload_n C 0 d_Mo_chosen_4 rfl rfl ?_
    refine sx_bipush C d_Mo_chosen_5 (by decide) ?_
    refine sx_icmp_ge C 51 ⟨by omega, by omega⟩ ⟨by omega, by omega⟩ d_Mo_chosen_7 (by decide) (fun c7 => ?_) (fun c7 => ?_)
    · refine sx_iload_n C 1 d_Mo_chosen_51 rfl rfl ?_
      refine sx_zreturn C Rr (by omega) rfl d_Mo_chosen_52 ?_
      refine ⟨rfl, rfl, q, rfl, ?_⟩
      rcases h1 with ⟨y1, y2, y3, e, he, y4⟩ | ⟨y1, y2⟩
      · exact Or.inl ⟨y1, y2, y3, e, by omega, y4⟩
      · refine Or.inr ⟨y1, fun z => ?_⟩
        obtain ⟨z1, z2, e, z3, z4⟩ := z
        first | omega | (rcases hb19 with ⟨w1, w2⟩ | ⟨w1, w2⟩; (exfalso; omega); exact w2 z1) | exact y2 e (by omega) z4
    · refine sx_aload_n C 2 d_Mo_chosen_10 rfl rfl ?_
      refine sx_getz C f_Mo_161 (by decide) rfl d_Mo_chosen_11 ?_
      refine sx_if_eq C 51 ⟨by omega, by omega⟩ d_Mo_chosen_14 (by decide) (fun c14 => ?_) (fun c14 => ?_)
      · refine sx_iload_n C 1 d_Mo_chosen_51 rfl rfl ?_
        refine sx_zreturn C Rr (by omega) rfl d_Mo_chosen_52 ?_
        refine ⟨rfl, rfl, q, rfl, ?_⟩
        rcases h1 with ⟨y1, y2, y3, e, he, y4⟩ | ⟨y1, y2⟩
        · exact Or.inl ⟨y1, y2, y3, e, by omega, y4⟩
        · refine Or.inr ⟨y1, fun z => ?_⟩
          obtain ⟨z1, z2, e, z3, z4⟩ := z
          first | omega | (rcases hb19 with ⟨w1, w2⟩ | ⟨w1, w2⟩; (exfalso; omega); exact w2 z1) | exact y2 e (by omega) z4
      · refine sx_aload_n C 2 d_Mo_chosen_17 rfl rfl ?_
        refine sx_iload_n C 3 d_Mo_chosen_18 rfl rfl ?_
        refine sx_callV (n := 71) (As := [sx_I (p)]) (st := []) C (ct_Mo_isPlace _ _ _ M hP p (by constructor <;> omega)) rfl (by decide) rfl (cv_Mo_100 E C _ (by rw [Rr.2.2]; decide)) (Nat.le_of_ble_eq_true rfl) d_Mo_chosen_19 (by rw [Rr.2.2]; decide) (by decide) rfl rfl rfl (fun r19 G19 M19 hpo _ => ?_)
        obtain ⟨e1, e2, b19, rfl, hb19⟩ := hpo
        rw [e1, e2]
        show sx_X SC E (0, 0) GL M 22 [(3, sx_I (((d : Nat) : Int))), (2, sx_I (q)), (0, sx_A (53)), (1, sx_I (p))] [sx_I (b19)]
        refine sx_if_eq C 51 ⟨by omega, by omega⟩ d_Mo_chosen_22 (by decide) (fun c22 => ?_) (fun c22 => ?_)
        · refine sx_iload_n C 1 d_Mo_chosen_51 rfl rfl ?_
          refine sx_zreturn C Rr (by omega) rfl d_Mo_chosen_52 ?_
          refine ⟨rfl, rfl, q, rfl, ?_⟩
          rcases h1 with ⟨y1, y2, y3, e, he, y4⟩ | ⟨y1, y2⟩
          · exact Or.inl ⟨y1, y2, y3, e, by omega, y4⟩
          · refine Or.inr ⟨y1, fun z => ?_⟩
            obtain ⟨z1, z2, e, z3, z4⟩ := z
            first | omega | (rcases hb19 with ⟨w1, w2⟩ | ⟨w1, w2⟩; (exfalso; omega); exact w2 z1) | exact y2 e (by omega) z4
        · have hq0 : q = 0 ∨ q = 1 := by omega
          refine sx_iload_n C 1 d_Mo_chosen_25 rfl rfl ?_
          refine sx_if_ne C 39 ⟨by omega, by omega⟩ d_Mo_chosen_26 (by decide) (fun c26 => ?_) (fun c26 => ?_)
          · refine sx_iconst C d_Mo_chosen_39 ?_
            refine sx_goto C 44 d_Mo_chosen_40 (by decide) ?_
            refine sx_istore_n (lv' := [(2, sx_I (1)), (3, sx_I (((d : Nat) : Int))), (0, sx_A (53)), (1, sx_I (p))]) C d_Mo_chosen_44 rfl (by rw [hnL]; decide) rfl ?_
            refine sx_iinc (lv' := [(3, sx_I (((d + 1 : Nat) : Int))), (2, sx_I (1)), (0, sx_A (53)), (1, sx_I (p))]) C 1 d_Mo_chosen_45 rfl (by rw [hnL]; decide) rfl ?_
            refine sx_goto C 4 d_Mo_chosen_48 (by decide) ?_
            refine sx_sub [0, 1, 2, 3] rfl ?_
            exact ih (d + 1) 1 (by omega) (Or.inl ⟨rfl, by rcases hb19 with ⟨z1, z2⟩ | ⟨z1, z2⟩; (exact z2); (exfalso; omega), by omega, by first | exact ⟨d, Nat.lt_succ_self d, by omega⟩ | (rcases h1 with ⟨_, _, _, e, he, y⟩ | ⟨y, _⟩; (exact ⟨e, by omega, y⟩); (exfalso; omega))⟩) (by omega)
          · have hq := hh d (by omega)
            refine sx_aload_n C 2 d_Mo_chosen_29 rfl rfl ?_
            refine sx_getr C f_Mo_44 63 (by decide) rfl rfl d_Mo_chosen_30 ?_
            refine sx_iload_n C 0 d_Mo_chosen_33 rfl rfl ?_
            refine sx_iaload C d (by decide) rfl rfl rfl (by omega) (by decide) d_Mo_chosen_34 ?_
            refine sx_iload_n C 3 d_Mo_chosen_35 rfl rfl ?_
            refine sx_icmp_ne C 43 ⟨by have := hh d (by omega); omega, by have := hh d (by omega); omega⟩ ⟨by have := hh d (by omega); omega, by have := hh d (by omega); omega⟩ d_Mo_chosen_36 (by decide) (fun c36 => ?_) (fun c36 => ?_)
            · refine sx_iconst C d_Mo_chosen_43 ?_
              refine sx_istore_n (lv' := [(2, sx_I (0)), (3, sx_I (((d : Nat) : Int))), (0, sx_A (53)), (1, sx_I (p))]) C d_Mo_chosen_44 rfl (by rw [hnL]; decide) rfl ?_
              refine sx_iinc (lv' := [(3, sx_I (((d + 1 : Nat) : Int))), (2, sx_I (0)), (0, sx_A (53)), (1, sx_I (p))]) C 1 d_Mo_chosen_45 rfl (by rw [hnL]; decide) rfl ?_
              refine sx_goto C 4 d_Mo_chosen_48 (by decide) ?_
              refine sx_sub [0, 1, 2, 3] rfl ?_
              exact ih (d + 1) 0 (by omega) (Or.inr ⟨rfl, fun e he => by rcases Nat.lt_or_ge e d with y | y; (rcases h1 with ⟨y2, _⟩ | ⟨_, y2⟩; (exfalso; omega); exact y2 e y); (rw [show e = d by omega]; omega)⟩) (by omega)
            · refine sx_iconst C d_Mo_chosen_39 ?_
              refine sx_goto C 44 d_Mo_chosen_40 (by decide) ?_
              refine sx_istore_n (lv' := [(2, sx_I (1)), (3, sx_I (((d : Nat) : Int))), (0, sx_A (53)), (1, sx_I (p))]) C d_Mo_chosen_44 rfl (by rw [hnL]; decide) rfl ?_
              refine sx_iinc (lv' := [(3, sx_I (((d + 1 : Nat) : Int))), (2, sx_I (1)), (0, sx_A (53)), (1, sx_I (p))]) C 1 d_Mo_chosen_45 rfl (by rw [hnL]; decide) rfl ?_
              refine sx_goto C 4 d_Mo_chosen_48 (by decide) ?_
              refine sx_sub [0, 1, 2, 3] rfl ?_
              exact ih (d + 1) 1 (by omega) (Or.inl ⟨rfl, by rcases hb19 with ⟨z1, z2⟩ | ⟨z1, z2⟩; (exact z2); (exfalso; omega), by omega, by first | exact ⟨d, Nat.lt_succ_self d, by omega⟩ | (rcases h1 with ⟨_, _, _, e, he, y⟩ | ⟨y, _⟩; (exact ⟨e, by omega, y⟩); (exfalso; omega))⟩) (by omega)
set_option maxRecDepth 100000 in
set_option maxHeartbeats 4000000 in
theorem ct_Mo_chosen (l : Launch) (D : va_G) (tc : Nat → ClassId) (M : sx_M0) (hP : 0 ≤ M 53 1 ∧ M 53 1 ≤ 5) (hz : M 53 12 = 0 ∨ M 53 12 = 1) (hh : ∀ d, d < 6 → sx_r32 (M 63 d)) (p : Int) (hx : sx_r32 p) : sx_Met SC l D tc y_Mo_chosen w_Mo_chosen (rmk 1 40) [sx_A (53), sx_I (p)] GL M (fun r G' M' => G' = GL ∧ M' = M ∧ bz ((0 ≤ p ∧ p < M 53 1) ∧ M 53 12 = 1 ∧ ∃ d : Nat, d < 6 ∧ M 63 d = p) r) := by
  refine sx_enter (by decide) rfl (Nat.le_of_ble_eq_true rfl) (Ts := g_tbl) (fun _ h => List.mem_cons_of_mem _ h) (fun E C Rr hnm hnL => ?_)
  refine sx_iconst C d_Mo_chosen_0 ?_
  refine sx_istore_n (lv' := [(2, sx_I (0)), (0, sx_A (53)), (1, sx_I (p))]) C d_Mo_chosen_1 rfl (by rw [hnL]; decide) rfl ?_
  refine sx_iconst C d_Mo_chosen_2 ?_
  refine sx_istore_n (lv' := [(3, sx_I (0)), (2, sx_I (0)), (0, sx_A (53)), (1, sx_I (p))]) C d_Mo_chosen_3 rfl (by rw [hnL]; decide) rfl ?_
  refine sx_sub [0, 1, 2, 3] rfl ?_
  exact lp_Mo_chosen M hP hz hh p hx C Rr hnL _ 0 0 (Nat.lt_succ_self _) (Or.inr ⟨rfl, fun e he => absurd he (Nat.not_lt_zero e)⟩) (by decide)
set_option maxRecDepth 100000 in
set_option maxHeartbeats 4000000 in
theorem ct_Mo_of (l : Launch) (D : va_G) (tc : Nat → ClassId) (M : sx_M0) (hD : 0 ≤ M 53 0 ∧ M 53 0 ≤ 6) (hz : M 53 12 = 0 ∨ M 53 12 = 1) (x : Int) (hx : sx_r32 x) : sx_Met SC l D tc y_Mo_of w_Mo_of (rmk 1 40) [sx_A (53), sx_I (x)] GL M (fun r G' M' => G' = GL ∧ M' = M ∧ r = some (sx_I (if M 53 12 = 1 ∧ 0 ≤ x ∧ x < M 53 0 then M 63 x.toNat else -1))) := by
  refine sx_enter (by decide) rfl (Nat.le_of_ble_eq_true rfl) (Ts := g_tbl) (fun _ h => List.mem_cons_of_mem _ h) (fun E C Rr hnm hnL => ?_)
  refine sx_aload_n C 0 d_Mo_of_0 rfl rfl ?_
  refine sx_getz C f_Mo_161 (by decide) rfl d_Mo_of_1 ?_
  refine sx_if_eq C 24 ⟨by omega, by omega⟩ d_Mo_of_4 (by decide) (fun c4 => ?_) (fun c4 => ?_)
  · refine sx_iconst C d_Mo_of_24 ?_
    refine sx_ireturn C Rr rfl d_Mo_of_25 ?_
    exact ⟨rfl, rfl, by rw [if_neg (by omega)]⟩
  · refine sx_aload_n C 0 d_Mo_of_7 rfl rfl ?_
    refine sx_iload_n C 1 d_Mo_of_8 rfl rfl ?_
    refine sx_callV (n := 71) (As := [sx_I (x)]) (st := []) C (ct_Mo_isDistrict _ _ _ M hD x (by constructor <;> omega)) rfl (by decide) rfl (cv_Mo_96 E C _ (by rw [Rr.2.2]; decide)) (Nat.le_of_ble_eq_true rfl) d_Mo_of_9 (by rw [Rr.2.2]; decide) (by decide) rfl rfl rfl (fun r9 G9 M9 hpo _ => ?_)
    obtain ⟨e1, e2, b9, rfl, hb9⟩ := hpo
    rw [e1, e2]
    show sx_X SC E (0, 0) GL M 12 [(0, sx_A (53)), (1, sx_I (x))] [sx_I (b9)]
    refine sx_if_eq C 24 ⟨by omega, by omega⟩ d_Mo_of_12 (by decide) (fun c12 => ?_) (fun c12 => ?_)
    · refine sx_iconst C d_Mo_of_24 ?_
      refine sx_ireturn C Rr rfl d_Mo_of_25 ?_
      exact ⟨rfl, rfl, by rw [if_neg (by omega)]⟩
    · refine sx_aload_n C 0 d_Mo_of_15 rfl rfl ?_
      refine sx_getr C f_Mo_44 63 (by decide) rfl rfl d_Mo_of_16 ?_
      refine sx_iload_n C 1 d_Mo_of_19 rfl rfl ?_
      refine sx_iaload C x.toNat (by decide) rfl rfl (by omega) (by omega) (by decide) d_Mo_of_20 ?_
      refine sx_goto C 25 d_Mo_of_21 (by decide) ?_
      refine sx_ireturn C Rr rfl d_Mo_of_25 ?_
      exact ⟨rfl, rfl, by rw [if_pos (by omega)]⟩
set_option maxRecDepth 100000 in
set_option maxHeartbeats 4000000 in
theorem ct_Mo_sum (l : Launch) (D : va_G) (tc : Nat → ClassId) (M : sx_M0) (hz : M 53 12 = 0 ∨ M 53 12 = 1) : sx_Met SC l D tc y_Mo_sum w_Mo_sum (rmk 0 0) [sx_A (53)] GL M (fun r G' M' => G' = GL ∧ M' = M ∧ r = some (sx_J (if M 53 12 = 1 then M 53 14 else -1))) := by
  refine sx_enter (by decide) rfl (Nat.le_of_ble_eq_true rfl) (Ts := g_tbl) (fun _ h => List.mem_cons_of_mem _ h) (fun E C Rr hnm hnL => ?_)
  refine sx_aload_n C 0 d_Mo_sum_0 rfl rfl ?_
  refine sx_getz C f_Mo_161 (by decide) rfl d_Mo_sum_1 ?_
  refine sx_if_eq C 14 ⟨by omega, by omega⟩ d_Mo_sum_4 (by decide) (fun c4 => ?_) (fun c4 => ?_)
  · refine sx_ldc2 (v := (-1)) C (-1) (tb_ 526 (by decide +kernel) rfl) (by decide) d_Mo_sum_14 ?_
    refine sx_lreturn C Rr rfl d_Mo_sum_17 ?_
    exact ⟨rfl, rfl, by rw [if_neg (by omega)]⟩
  · refine sx_aload_n C 0 d_Mo_sum_7 rfl rfl ?_
    refine sx_getl C f_Mo_171 (by decide) rfl d_Mo_sum_8 ?_
    refine sx_goto C 17 d_Mo_sum_11 (by decide) ?_
    refine sx_lreturn C Rr rfl d_Mo_sum_17 ?_
    exact ⟨rfl, rfl, by rw [if_pos (by omega)]⟩
set_option maxRecDepth 100000 in
set_option maxHeartbeats 4000000 in
theorem ct_Mo_proved (l : Launch) (D : va_G) (tc : Nat → ClassId) (M : sx_M0) (hz : M 53 15 = 0 ∨ M 53 15 = 1) : sx_Met SC l D tc y_Mo_proved w_Mo_proved (rmk 0 0) [sx_A (53)] GL M (fun r G' M' => G' = GL ∧ M' = M ∧ r = some (sx_I (M 53 15))) := by
  refine sx_enter (by decide) rfl (Nat.le_of_ble_eq_true rfl) (Ts := g_tbl) (fun _ h => List.mem_cons_of_mem _ h) (fun E C Rr hnm hnL => ?_)
  refine sx_aload_n C 0 d_Mo_proved_0 rfl rfl ?_
  refine sx_getz C f_Mo_86 (by decide) rfl d_Mo_proved_1 ?_
  refine sx_zreturn C Rr (by omega) rfl d_Mo_proved_4 ?_
  exact ⟨rfl, rfl, rfl⟩
def clF (u : Nat) (k : Int) : Nat → Nat → Int → Int
  | 0, _, _ => -1
  | n + 1, d, s => if u.testBit d = true then (if s = k then (d : Int) else clF u k n (d + 1) (s + 1)) else clF u k n (d + 1) s
theorem cl_step {u : Nat} {k s : Int} {d : Nat} (h : d < 6) : clF u k (6 - d) d s = if u.testBit d = true then (if s = k then (d : Int) else clF u k (6 - (d + 1)) (d + 1) (s + 1)) else clF u k (6 - (d + 1)) (d + 1) s := by
  rw [show 6 - d = 6 - (d + 1) + 1 by omega]
  rfl
set_option maxRecDepth 100000 in
set_option maxHeartbeats 4000000 in
theorem lp_Mo_clash  (M : sx_M0) (u : Nat) (hu : u < 64) (h16 : M 53 16 = (u : Int)) (k : Int) (hk : sx_r32 k) {E : sx_E} (C : sx_C SC g_tbl "SiteChoiceModel" c_Mo_clash E) (Rr : sx_Ret SC (some .int) (rmk 1 40) (fun r G' M' => G' = GL ∧ M' = M ∧ r = some (sx_I (clF u k 6 0 0))) E) (hnL : sx_nL E = 4) : ∀ (nF : Nat) (d : Nat) (s : Int), 6 - d < nF → clF u k 6 0 0 = clF u k (6 - d) d s → d ≤ 6 → (0 ≤ s ∧ s ≤ (d : Int)) → sx_X SC E (0, 0) GL M 4 [(3, sx_I (((d : Nat) : Int))), (2, sx_I (s)), (0, sx_A (53)), (1, sx_I (k))] [] := by
  intro nF
  induction nF with
  | zero => intro d s h; omega
  | succ nF ih =>
    intro d s hn h1 h2 h3
    refine sx_iload_n C 0 d_Mo_clash_4 rfl rfl ?_
    refine sx_bipush C d_Mo_clash_5 (by decide) ?_
    refine sx_icmp_ge C 37 ⟨by omega, by omega⟩ ⟨by omega, by omega⟩ d_Mo_clash_7 (by decide) (fun c7 => ?_) (fun c7 => ?_)
    · refine sx_iconst C d_Mo_clash_37 ?_
      refine sx_ireturn C Rr rfl d_Mo_clash_38 ?_
      refine ⟨rfl, rfl, ?_⟩
      rw [h1, show 6 - d = 0 by omega]
      rfl
    · refine sx_aload_n C 2 d_Mo_clash_10 rfl rfl ?_
      refine sx_geti C f_Mo_140 (by decide) rfl d_Mo_clash_11 ?_
      rw [h16]
      refine sx_iload_n C 0 d_Mo_clash_14 rfl rfl ?_
      refine sx_callS (n := 71) (As := [sx_I (((u : Nat) : Int)), sx_I (((d : Nat) : Int))]) (st := []) C (ct_Mo_has _ _ _ M u d (by omega) (by omega)) (cv_Mo_105 E C _ (by rw [Rr.2.2]; decide)) (Nat.le_of_ble_eq_true rfl) d_Mo_clash_15 (by rw [Rr.2.2]; decide) (by decide) rfl rfl rfl (fun r15 G15 M15 hpo _ => ?_)
      obtain ⟨e1, e2, b15, rfl, hb15⟩ := hpo
      rw [e1, e2]
      show sx_X SC E (0, 0) GL M 18 [(3, sx_I (((d : Nat) : Int))), (2, sx_I (s)), (0, sx_A (53)), (1, sx_I (k))] [sx_I (b15)]
      refine sx_if_eq C 31 ⟨by omega, by omega⟩ d_Mo_clash_18 (by decide) (fun c18 => ?_) (fun c18 => ?_)
      · refine sx_iinc (lv' := [(3, sx_I (((d + 1 : Nat) : Int))), (2, sx_I (s)), (0, sx_A (53)), (1, sx_I (k))]) C 0 d_Mo_clash_31 rfl (by rw [hnL]; decide) rfl ?_
        refine sx_goto C 4 d_Mo_clash_34 (by decide) ?_
        refine sx_sub [0, 1, 2, 3] rfl ?_
        exact ih (d + 1) s (by omega) (by rw [h1, cl_step (by omega), if_neg (by rcases hb15 with ⟨z1, z2⟩ | ⟨z1, z2⟩; (exfalso; omega); exact z2)]) (by omega) (by omega)
      · refine sx_iload_n C 1 d_Mo_clash_21 rfl rfl ?_
        refine sx_iload_n C 3 d_Mo_clash_22 rfl rfl ?_
        refine sx_icmp_ne C 28 ⟨by omega, by omega⟩ ⟨by omega, by omega⟩ d_Mo_clash_23 (by decide) (fun c23 => ?_) (fun c23 => ?_)
        · refine sx_iinc (lv' := [(2, sx_I (s + 1)), (3, sx_I (((d : Nat) : Int))), (0, sx_A (53)), (1, sx_I (k))]) C 1 d_Mo_clash_28 rfl (by rw [hnL]; decide) rfl ?_
          refine sx_iinc (lv' := [(3, sx_I (((d + 1 : Nat) : Int))), (2, sx_I (s + 1)), (0, sx_A (53)), (1, sx_I (k))]) C 1 d_Mo_clash_31 rfl (by rw [hnL]; decide) rfl ?_
          refine sx_goto C 4 d_Mo_clash_34 (by decide) ?_
          refine sx_sub [0, 1, 2, 3] rfl ?_
          exact ih (d + 1) _ (by omega) (by rw [h1, cl_step (by omega), if_pos (by rcases hb15 with ⟨z1, z2⟩ | ⟨z1, z2⟩; (exact z2); (exfalso; omega)), if_neg (by omega)]) (by omega) (by omega)
        · refine sx_iload_n C 0 d_Mo_clash_26 rfl rfl ?_
          refine sx_ireturn C Rr rfl d_Mo_clash_27 ?_
          exact ⟨rfl, rfl, by rw [h1, cl_step (by omega), if_pos (by rcases hb15 with ⟨z1, z2⟩ | ⟨z1, z2⟩; (exact z2); (exfalso; omega)), if_pos (by omega)]⟩
set_option maxRecDepth 100000 in
set_option maxHeartbeats 4000000 in
theorem ct_Mo_clash (l : Launch) (D : va_G) (tc : Nat → ClassId) (M : sx_M0) (u : Nat) (hu : u < 64) (h16 : M 53 16 = (u : Int)) (k : Int) (hk : sx_r32 k) : sx_Met SC l D tc y_Mo_clash w_Mo_clash (rmk 1 40) [sx_A (53), sx_I (k)] GL M (fun r G' M' => G' = GL ∧ M' = M ∧ r = some (sx_I (clF u k 6 0 0))) := by
  refine sx_enter (by decide) rfl (Nat.le_of_ble_eq_true rfl) (Ts := g_tbl) (fun _ h => List.mem_cons_of_mem _ h) (fun E C Rr hnm hnL => ?_)
  refine sx_iconst C d_Mo_clash_0 ?_
  refine sx_istore_n (lv' := [(2, sx_I (0)), (0, sx_A (53)), (1, sx_I (k))]) C d_Mo_clash_1 rfl (by rw [hnL]; decide) rfl ?_
  refine sx_iconst C d_Mo_clash_2 ?_
  refine sx_istore_n (lv' := [(3, sx_I (0)), (2, sx_I (0)), (0, sx_A (53)), (1, sx_I (k))]) C d_Mo_clash_3 rfl (by rw [hnL]; decide) rfl ?_
  refine sx_sub [0, 1, 2, 3] rfl ?_
  exact lp_Mo_clash M u hu h16 k hk C Rr hnL _ 0 0 (Nat.lt_succ_self _) rfl (by decide) (by decide)
set_option maxRecDepth 100000 in
set_option maxHeartbeats 4000000 in
theorem ct_Mo_open (l : Launch) (D : va_G) (tc : Nat → ClassId) (M : sx_M0) (hP : 0 ≤ M 53 1 ∧ M 53 1 ≤ 5) (hY : 0 ≤ M 53 17 ∧ M 53 17 ≤ 6) (hS : ∀ y : Nat, (y : Int) < M 53 17 → 0 ≤ M 64 y ∧ M 64 y ≤ 31) (p y : Int) (hp : sx_r32 p) (hy : sx_r32 y) : sx_Met SC l D tc y_Mo_open w_Mo_open (rmk 1 40) [sx_A (53), sx_I (p), sx_I (y)] GL M (fun r G' M' => G' = GL ∧ M' = M ∧ r = some (sx_I (if (0 ≤ p ∧ p < M 53 1) ∧ 0 ≤ y ∧ y < M 53 17 then (if (M 64 y.toNat).toNat.testBit p.toNat = true then 1 else 0) else -1))) := by
  refine sx_enter (by decide) rfl (Nat.le_of_ble_eq_true rfl) (Ts := g_tbl) (fun _ h => List.mem_cons_of_mem _ h) (fun E C Rr hnm hnL => ?_)
  refine sx_aload_n C 0 d_Mo_open_0 rfl rfl ?_
  refine sx_iload_n C 1 d_Mo_open_1 rfl rfl ?_
  refine sx_callV (n := 71) (As := [sx_I (p)]) (st := []) C (ct_Mo_isPlace _ _ _ M hP p (by constructor <;> omega)) rfl (by decide) rfl (cv_Mo_100 E C _ (by rw [Rr.2.2]; decide)) (Nat.le_of_ble_eq_true rfl) d_Mo_open_2 (by rw [Rr.2.2]; decide) (by decide) rfl rfl rfl (fun r2 G2 M2 hpo _ => ?_)
  obtain ⟨e1, e2, b2, rfl, hb2⟩ := hpo
  rw [e1, e2]
  show sx_X SC E (0, 0) GL M 5 [(0, sx_A (53)), (1, sx_I (p)), (2, sx_I (y))] [sx_I (b2)]
  refine sx_if_eq C 20 ⟨by omega, by omega⟩ d_Mo_open_5 (by decide) (fun c5 => ?_) (fun c5 => ?_)
  · refine sx_iconst C d_Mo_open_20 ?_
    refine sx_ireturn C Rr rfl d_Mo_open_21 ?_
    refine ⟨rfl, rfl, ?_⟩
    rw [if_neg (fun z => by omega)]
  · refine sx_iload_n C 2 d_Mo_open_8 rfl rfl ?_
    refine sx_if_lt C 20 ⟨by omega, by omega⟩ d_Mo_open_9 (by decide) (fun c9 => ?_) (fun c9 => ?_)
    · refine sx_iconst C d_Mo_open_20 ?_
      refine sx_ireturn C Rr rfl d_Mo_open_21 ?_
      refine ⟨rfl, rfl, ?_⟩
      rw [if_neg (fun z => by omega)]
    · refine sx_iload_n C 2 d_Mo_open_12 rfl rfl ?_
      refine sx_aload_n C 0 d_Mo_open_13 rfl rfl ?_
      refine sx_geti C f_Mo_187 (by decide) rfl d_Mo_open_14 ?_
      refine sx_icmp_lt C 22 ⟨by omega, by omega⟩ ⟨by omega, by omega⟩ d_Mo_open_17 (by decide) (fun c17 => ?_) (fun c17 => ?_)
      · refine sx_aload_n C 0 d_Mo_open_22 rfl rfl ?_
        refine sx_getr C f_Mo_48 64 (by decide) rfl rfl d_Mo_open_23 ?_
        refine sx_iload_n C 2 d_Mo_open_26 rfl rfl ?_
        refine sx_iaload C y.toNat (by decide) rfl rfl (by omega) (by omega) (by decide) d_Mo_open_27 ?_
        refine sx_iload_n C 1 d_Mo_open_28 rfl rfl ?_
        have q1 := hS y.toNat (by omega)
        rw [show sx_I (M 64 y.toNat) = sx_I ((((M 64 y.toNat).toNat : Nat)) : Int) from by congr 1; omega]
        have ep : p = ((p.toNat : Nat) : Int) := by omega
        show sx_X SC E (0, 0) GL M 29 [(0, sx_A (53)), (1, sx_I (p)), (2, sx_I (y))] [sx_I p, sx_I ((((M 64 y.toNat).toNat : Nat)) : Int)]
        refine Eq.mpr (congrArg (fun q => sx_X SC E (0, 0) GL M 29 [(0, sx_A (53)), (1, sx_I (p)), (2, sx_I (y))] [sx_I q, sx_I ((((M 64 y.toNat).toNat : Nat)) : Int)]) ep) ?_
        refine sx_callS (n := 71) (As := [sx_I ((((M 64 y.toNat).toNat : Nat) : Int)), sx_I (((p.toNat : Nat) : Int))]) (st := []) C (ct_Mo_has _ _ _ M ((M 64 y.toNat).toNat) p.toNat (by omega) (by omega)) (cv_Mo_105 E C _ (by rw [Rr.2.2]; decide)) (Nat.le_of_ble_eq_true rfl) d_Mo_open_29 (by rw [Rr.2.2]; decide) (by decide) rfl rfl rfl (fun r29 G29 M29 hpo _ => ?_)
        obtain ⟨e1, e2, b29, rfl, hb29⟩ := hpo
        rw [e1, e2]
        show sx_X SC E (0, 0) GL M 32 [(0, sx_A (53)), (1, sx_I (p)), (2, sx_I (y))] [sx_I (b29)]
        refine sx_if_eq C 39 ⟨by omega, by omega⟩ d_Mo_open_32 (by decide) (fun c32 => ?_) (fun c32 => ?_)
        · refine sx_iconst C d_Mo_open_39 ?_
          refine sx_ireturn C Rr rfl d_Mo_open_40 ?_
          refine ⟨rfl, rfl, ?_⟩
          rw [if_pos ⟨by omega, by omega, by omega⟩]
          rcases hb29 with ⟨z1, z2⟩ | ⟨z1, z2⟩
          · first | (rw [if_pos z2]; done) | (exfalso; omega)
          · first | (rw [if_neg z2]; done) | (exfalso; omega)
        · refine sx_iconst C d_Mo_open_35 ?_
          refine sx_goto C 40 d_Mo_open_36 (by decide) ?_
          refine sx_ireturn C Rr rfl d_Mo_open_40 ?_
          refine ⟨rfl, rfl, ?_⟩
          rw [if_pos ⟨by omega, by omega, by omega⟩]
          rcases hb29 with ⟨z1, z2⟩ | ⟨z1, z2⟩
          · first | (rw [if_pos z2]; done) | (exfalso; omega)
          · first | (rw [if_neg z2]; done) | (exfalso; omega)
      · refine sx_iconst C d_Mo_open_20 ?_
        refine sx_ireturn C Rr rfl d_Mo_open_21 ?_
        refine ⟨rfl, rfl, ?_⟩
        rw [if_neg (fun z => by omega)]
