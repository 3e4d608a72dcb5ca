theorem wyS_bd {M : sx_M0} (hT : tw M) : ∀ n, n ≤ 6 → wyS M n ≤ 5 ^ n
  | 0, _ => by simp [wyS]
  | n + 1, h => by
    have g1 := hT.2.1
    have q := wyS_bd hT n (by omega)
    have q0 := wyS_nn M n
    have c := crS_bd M n (M 1 1).toNat
    have e : (5 : Int) ^ (n + 1) = 5 ^ n * 5 := Int.pow_succ 5 n
    have p0 : (0 : Int) ≤ 5 ^ n := Int.le_trans q0 q
    show (if 0 < M 2 n then wyS M n * crS M n (M 1 1).toNat else wyS M n) ≤ _
    rw [e]
    split
    · exact Int.mul_le_mul q (by omega) c.1 p0
    · omega
abbrev rn1 (M : sx_M0) : sx_M0 := sx_up (sx_up (sx_up M 33 0 0) 35 0 0) 0 5 0
theorem rn1_ne {M : sx_M0} {a : Nat} (h : a ≠ 33) (h2 : a ≠ 35) (h3 : a ≠ 0) : rn1 M a = M a := (sx_up_ne h3).trans ((sx_up_ne h2).trans (sx_up_ne h))
theorem rn1_33 {M : sx_M0} : rn1 M 33 = sx_up M 33 0 0 33 := (sx_up_ne (by decide)).trans (sx_up_ne (by decide))
theorem rn1_35 {M : sx_M0} {b : Nat} : rn1 M 35 b = if b = 0 then 0 else M 35 b := by
  show sx_up _ 0 5 0 35 b = _
  rw [sx_up_ne (by decide)]
  by_cases e : b = 0
  · rw [e, if_pos rfl]; exact sx_up_at
  · rw [if_neg e, sx_up_slot e, sx_up_ne (by decide)]
theorem rn1_0 {M : sx_M0} {b : Nat} : rn1 M 0 b = if b = 5 then 0 else M 0 b := by
  by_cases e : b = 5
  · rw [e, if_pos rfl]; exact sx_up_at
  · rw [if_neg e]
    show sx_up _ 0 5 0 0 b = _
    rw [sx_up_slot e, sx_up_ne (by decide), sx_up_ne (by decide)]
theorem ci_rn {M : sx_M0} (hI : ci M) : ci (rn1 M) := by
  refine ⟨tw_fr1 (fun a h1 h2 => rn1_ne (by omega) (by omega) (by omega)) hI.1, ?_, ?_, ?_, ?_⟩
  · have hV := hI.2.1
    unfold sv at hV ⊢
    rw [rn1_ne (a := 17) (by decide) (by decide) (by decide), rn1_ne (a := 18) (by decide) (by decide) (by decide), rn1_ne (a := 27) (by decide) (by decide) (by decide), rn1_ne (a := 29) (by decide) (by decide) (by decide)]
    refine ⟨hV.1, hV.2.1, hV.2.2.1, fun d p hd hp => ?_, hV.2.2.2.2⟩
    rw [rn1_ne (by omega) (by omega) (by omega)]
    exact hV.2.2.2.1 d p hd hp
  · have hH := hI.2.2.1
    unfold hv at hH ⊢
    rw [rn1_33, rn1_35, rn1_0, if_pos rfl, if_pos rfl, sx_up_at, sx_up_slot (by decide), rn1_ne (a := 34) (by decide) (by decide) (by decide), rn1_ne (a := 36) (by decide) (by decide) (by decide), rn1_ne (a := 37) (by decide) (by decide) (by decide), rn1_ne (a := 38) (by decide) (by decide) (by decide)]
    exact ⟨Or.inl rfl, hH.2.1, hH.2.2.1, ⟨by decide, by decide⟩, hH.2.2.2.2.1, hH.2.2.2.2.2.1, hH.2.2.2.2.2.2.1, Or.inl rfl⟩
  · rw [rn1_ne (by decide) (by decide) (by decide)]; exact hI.2.2.2.1
  · rw [rn1_ne (a := 19) (by decide) (by decide) (by decide)]; exact hI.2.2.2.2
theorem cp_bd {J : mt_J} (hP : J.2.1 ≤ 5) : ∀ {n k s : Nat} {rl g : Nat → Int}, CP J n k s rl g → ∀ d, k ≤ d → d < k + n → -1 ≤ g d ∧ g d ≤ 4
  | 0, k, s, rl, g, _, d, h1, h2 => by omega
  | n + 1, k, s, rl, g, h, d, h1, h2 => by
    by_cases e : d = k
    · subst e
      rcases h with ⟨_, h3, _⟩ | ⟨_, p, h3, h4, _⟩
      · omega
      · omega
    · rcases h with ⟨_, _, h3⟩ | ⟨_, p, _, _, _, _, _, _, h3⟩
      · exact cp_bd hP h3 d (by omega) (by omega)
      · exact cp_bd hP h3 d (by omega) (by omega)
abbrev kpM (M : sx_M0) (s : Int) : sx_M0 := sx_up (sx_cpy (sx_up (sx_up M 33 0 1) 33 1 s) 32 34 0 0 6) 0 5 1
def roP (M M' : sx_M0) (x r : Int) : Prop := (x < 0 ∧ r = -1 ∧ M' = M) ∨ (0 ≤ x ∧ ((x < wyS (rn1 M) (rn1 M 1 0).toNat ∧ r = 1 ∧ M' = rn1 M) ∨ (wyS (rn1 M) (rn1 M 1 0).toNat ≤ x ∧ ∃ M2 s, s = M2 17 11 ∧ sv M2 ∧ lsF (ldM (rn1 M) (-1)) M2 ∧ bstP (jW (ldM (rn1 M) (-1)) 31) (ldM (rn1 M) (-1) 19) 0 s (M2 32) ∧ ((s = -1 ∧ r = 2 ∧ fdP M2 M') ∨ (s ≠ -1 ∧ r = 0 ∧ M' = kpM M2 s)))))
theorem pw5 : ∀ n, n ≤ 6 → (5 : Int) ^ n ≤ 15625 := by decide
set_option maxRecDepth 100000 in
set_option maxHeartbeats 4000000 in
theorem ct_Si_run (l : Launch) (D : va_G) (tc : Nat → ClassId) (M : sx_M0) (hI : ci M) (x : Int) (hx : sx_r64 x) : sx_Met SC l D tc y_Si_run w_Si_run (rmk 27 1050) [sx_A (0), sx_J (x)] GL M (fun r G' M' => G' = GL ∧ ∃ q : Int, r = some (sx_I q) ∧ roP M M' x q) := by
  refine sx_enter (by decide) rfl (Nat.le_of_ble_eq_true rfl) (Ts := g_tbl) (fun _ h => List.mem_cons_of_mem _ h) (fun E C Rr hnm hnL => ?_)
  refine sx_lload_n C 1 d_Si_run_0 rfl rfl ?_
  refine sx_lconst C 0 rfl d_Si_run_1 ?_
  refine sx_lcmp_ge C 8 ⟨by omega, by omega⟩ ⟨by omega, by omega⟩ d_Si_run_2 d_Si_run_3 (by decide) (fun c3 => ?_) (fun c3 => ?_)
  · have hI1 := ci_rn hI
    have hIL : ci (ldM (rn1 M) (-1)) := ci_sc hI1 (sc_ld hI1 (-1))
    refine sx_aload_n C 0 d_Si_run_8 rfl rfl ?_
    refine sx_getr C f_Si_26 33 (by decide) rfl rfl d_Si_run_9 ?_
    refine sx_callV (n := 71) (As := []) (st := []) C (ct_He_drop _ _ _ M) rfl (by decide) rfl (cv_Si_111 E C _ (by rw [Rr.2.2]; decide)) (Nat.le_of_ble_eq_true rfl) d_Si_run_12 (by rw [Rr.2.2]; decide) (by decide) rfl rfl rfl (fun r12 G12 M12 hpo _ => ?_)
    obtain ⟨e1, e2, rfl⟩ := hpo
    rw [e1, e2]
    show sx_X SC E (0, 0) GL (sx_up M 33 0 0) 15 [(0, sx_A (0)), (1, sx_J (x))] []
    refine sx_aload_n C 0 d_Si_run_15 rfl rfl ?_
    refine sx_getr C f_Si_33 35 (by decide) rfl rfl d_Si_run_16 ?_
    refine sx_callV (n := 71) (As := []) (st := []) C (ct_Un_forget _ _ _ (sx_up M 33 0 0)) rfl (by decide) rfl (cv_Si_114 E C _ (by rw [Rr.2.2]; decide)) (Nat.le_of_ble_eq_true rfl) d_Si_run_19 (by rw [Rr.2.2]; decide) (by decide) rfl rfl rfl (fun r19 G19 M19 hpo _ => ?_)
    obtain ⟨e1, e2, rfl⟩ := hpo
    rw [e1, e2]
    show sx_X SC E (0, 0) GL (sx_up (sx_up M 33 0 0) 35 0 0) 22 [(0, sx_A (0)), (1, sx_J (x))] []
    refine sx_aload_n C 0 d_Si_run_22 rfl rfl ?_
    refine sx_iconst C d_Si_run_23 ?_
    refine sx_putz C p_Si_44 (by omega) (by decide) rfl d_Si_run_24 ?_
    show sx_X SC E (0, 0) GL (rn1 M) 27 [(0, sx_A (0)), (1, sx_J (x))] []
    refine sx_aload_n C 0 d_Si_run_27 rfl rfl ?_
    refine sx_getr C f_Si_12 1 (by decide) rfl rfl d_Si_run_28 ?_
    refine sx_callV (n := 71) (As := []) (st := []) C (ct_To_countWays _ _ _ (rn1 M) hI1.1) rfl (by decide) rfl (cv_Si_107 E C _ (by rw [Rr.2.2]; decide)) (Nat.le_of_ble_eq_true rfl) d_Si_run_31 (by rw [Rr.2.2]; decide) (by decide) rfl rfl rfl (fun r31 G31 M31 hpo _ => ?_)
    obtain ⟨e1, e2, rfl⟩ := hpo
    rw [e1, e2]
    have hw := wyS_bd hI1.1 (rn1 M 1 0).toNat (by have := hI1.1.1; omega)
    have hw0 := wyS_nn (rn1 M) (rn1 M 1 0).toNat
    have hw2 : (5 : Int) ^ (rn1 M 1 0).toNat ≤ 15625 := pw5 _ (by have := hI1.1.1; omega)
    show sx_X SC E (0, 0) GL (rn1 M) 34 [(0, sx_A (0)), (1, sx_J (x))] [sx_J (wyS (rn1 M) (rn1 M 1 0).toNat)]
    refine sx_lload_n C 1 d_Si_run_34 rfl rfl ?_
    refine sx_lcmp_le C 41 ⟨by omega, by omega⟩ ⟨by omega, by omega⟩ d_Si_run_35 d_Si_run_36 (by decide) (fun c36 => ?_) (fun c36 => ?_)
    · refine sx_aload_n C 0 d_Si_run_41 rfl rfl ?_
      refine sx_getr C f_Si_19 17 (by decide) rfl rfl d_Si_run_42 ?_
      refine sx_aload_n C 0 d_Si_run_45 rfl rfl ?_
      refine sx_getr C f_Si_12 1 (by decide) rfl rfl d_Si_run_46 ?_
      refine sx_iconst C d_Si_run_49 ?_
      refine sx_callV (n := 71) (As := [sx_A (1), sx_I (-1)]) (st := []) C (ct_Se_load _ _ _ (rn1 M) hI1.1 (-1) ⟨by decide, by decide⟩) rfl (by decide) rfl (cv_Si_117 E C _ (by rw [Rr.2.2]; decide)) (Nat.le_of_ble_eq_true rfl) d_Si_run_50 (by rw [Rr.2.2]; decide) (by decide) rfl rfl rfl (fun r50 G50 M50 hpo _ => ?_)
      obtain ⟨e1, e2, rfl⟩ := hpo
      rw [e1, e2]
      show sx_X SC E (0, 0) GL (ldM (rn1 M) (-1)) 53 [(0, sx_A (0)), (1, sx_J (x))] []
      refine sx_aload_n C 0 d_Si_run_53 rfl rfl ?_
      refine sx_getr C f_Si_19 17 (by decide) rfl rfl d_Si_run_54 ?_
      refine sx_bipush C d_Si_run_57 (by decide) ?_
      refine sx_callV (n := 71) (As := [sx_I (31)]) (st := []) C (ct_Se_leastSum _ _ _ (ldM (rn1 M) (-1)) hIL.2.1 31 (by decide) hIL.2.2.2.2) rfl (by decide) rfl (cv_Si_121 E C _ (by rw [Rr.2.2]; decide)) (Nat.le_of_ble_eq_true rfl) d_Si_run_59 (by rw [Rr.2.2]; decide) (by decide) rfl rfl rfl (fun r59 G59 M59 hpo _ => ?_)
      obtain ⟨e1, x59, rfl, w59, f59, s59, z59⟩ := hpo
      rw [e1]
      rw [hIL.2.2.2.1] at z59
      have hs59 := sc_ls hIL.2.2.2.1 hIL.2.2.2.2 f59 s59
      have hI59 := ci_sc hIL hs59
      have r59 := s59.2.2.2.2.2.2.2.2
      show sx_X SC E (0, 0) GL M59 62 [(0, sx_A (0)), (1, sx_J (x))] [sx_J (x59)]
      refine sx_lstore_n (lv' := [(3, sx_J (x59)), (0, sx_A (0)), (1, sx_J (x))]) C d_Si_run_62 rfl (by rw [hnL]; decide) rfl ?_
      refine sx_lload_n C 0 d_Si_run_63 rfl rfl ?_
      refine sx_ldc2 (v := (-1)) C (-1) (tb_ 373 (by decide +kernel) rfl) (by decide) d_Si_run_64 ?_
      refine sx_lcmp_ne C 88 ⟨by omega, by omega⟩ ⟨by omega, by omega⟩ d_Si_run_67 d_Si_run_68 (by decide) (fun c68 => ?_) (fun c68 => ?_)
      · refine sx_aload_n C 1 d_Si_run_88 rfl rfl ?_
        refine sx_getr C f_Si_26 33 (by decide) rfl rfl d_Si_run_89 ?_
        refine sx_aload_n C 1 d_Si_run_92 rfl rfl ?_
        refine sx_getr C f_Si_19 17 (by decide) rfl rfl d_Si_run_93 ?_
        refine sx_getr C f_Si_131 32 (by decide) rfl rfl d_Si_run_96 ?_
        refine sx_lload_n C 0 d_Si_run_99 rfl rfl ?_
        refine sx_callV (n := 71) (As := [sx_A (32), sx_J (x59)]) (st := []) C (ct_He_keep _ _ _ M59 x59) rfl (by decide) rfl (cv_Si_135 E C _ (by rw [Rr.2.2]; decide)) (Nat.le_of_ble_eq_true rfl) d_Si_run_100 (by rw [Rr.2.2]; decide) (by decide) rfl rfl rfl (fun r100 G100 M100 hpo _ => ?_)
        obtain ⟨e1, e2, rfl⟩ := hpo
        rw [e1, e2]
        show sx_X SC E (0, 0) GL (sx_cpy (sx_up (sx_up M59 33 0 1) 33 1 x59) 32 34 0 0 6) 103 [(3, sx_J (x59)), (0, sx_A (0)), (1, sx_J (x))] []
        refine sx_aload_n C 1 d_Si_run_103 rfl rfl ?_
        refine sx_iconst C d_Si_run_104 ?_
        refine sx_putz C p_Si_44 (by omega) (by decide) rfl d_Si_run_105 ?_
        refine sx_iconst C d_Si_run_108 ?_
        refine sx_ireturn C Rr rfl d_Si_run_109 ?_
        exact ⟨rfl, 0, rfl, Or.inr ⟨by omega, Or.inr ⟨by omega, M59, x59, w59, s59, f59, z59, Or.inr ⟨by omega, rfl, rfl⟩⟩⟩⟩
      · refine sx_aload_n C 1 d_Si_run_71 rfl rfl ?_
        refine sx_getr C f_Si_33 35 (by decide) rfl rfl d_Si_run_72 ?_
        refine sx_aload_n C 1 d_Si_run_75 rfl rfl ?_
        refine sx_getr C f_Si_12 1 (by decide) rfl rfl d_Si_run_76 ?_
        refine sx_aload_n C 1 d_Si_run_79 rfl rfl ?_
        refine sx_getr C f_Si_19 17 (by decide) rfl rfl d_Si_run_80 ?_
        refine sx_callV (n := 71) (As := [sx_A (1), sx_A (17)]) (st := []) C (ct_Un_find _ _ _ M59 hI59.1 hI59.2.1 hI59.2.2.1 hI59.2.2.2.2 hI59.2.2.2.1 (by rw [f59.2 0 (by decide) (by decide), f59.1 1 (by decide) (by decide) (by decide) (by decide) (by decide), ldM_17 hI1.1, la_0, ldM_ne hI1.1 (by decide)])) rfl (by decide) rfl (cv_Si_127 E C _ (by rw [Rr.2.2]; decide)) (Nat.le_of_ble_eq_true rfl) d_Si_run_83 (by rw [Rr.2.2]; decide) (by decide) rfl rfl rfl (fun r83 G83 M83 hpo _ => ?_)
        obtain ⟨e1, rfl, h83⟩ := hpo
        rw [e1]
        show sx_X SC E (0, 0) GL M83 86 [(3, sx_J (x59)), (0, sx_A (0)), (1, sx_J (x))] []
        refine sx_iconst C d_Si_run_86 ?_
        refine sx_ireturn C Rr rfl d_Si_run_87 ?_
        exact ⟨rfl, 2, rfl, Or.inr ⟨by omega, Or.inr ⟨by omega, M59, x59, w59, s59, f59, z59, Or.inl ⟨by omega, rfl, h83⟩⟩⟩⟩
    · refine sx_iconst C d_Si_run_39 ?_
      refine sx_ireturn C Rr rfl d_Si_run_40 ?_
      exact ⟨rfl, 1, rfl, Or.inr ⟨by omega, Or.inl ⟨by omega, rfl, rfl⟩⟩⟩
  · refine sx_iconst C d_Si_run_6 ?_
    refine sx_ireturn C Rr rfl d_Si_run_7 ?_
    exact ⟨rfl, -1, rfl, Or.inl ⟨by omega, rfl, rfl⟩⟩
theorem rn_ci {M M' : sx_M0} {x r : Int} (hI : ci M) (h : roP M M' x r) : ci M' ∧ (∀ a, (0 < a ∧ a < 17) ∨ a = 37 ∨ a = 38 ∨ 53 ≤ a → M' a = M a) := by
  have hI1 := ci_rn hI
  have hIL := ci_sc hI1 (sc_ld hI1 (-1))
  have fr1 : ∀ a, (0 < a ∧ a < 17) ∨ a = 37 ∨ a = 38 ∨ 53 ≤ a → rn1 M a = M a := fun a ha => rn1_ne (by omega) (by omega) (by omega)
  rcases h with ⟨_, _, h⟩ | ⟨_, ⟨_, _, h⟩ | ⟨_, M2, s, hs, s2, f2, b2, h⟩⟩
  · subst h; exact ⟨hI, fun _ _ => rfl⟩
  · subst h; exact ⟨hI1, fr1⟩
  · have sc2 := sc_tr (sc_ld hI1 (-1)) (sc_ls hIL.2.2.2.1 hIL.2.2.2.2 f2 s2)
    have hI2 := ci_sc hI1 sc2
    have fr2 : ∀ a, (0 < a ∧ a < 17) ∨ a = 37 ∨ a = 38 ∨ 53 ≤ a → M2 a = M a := fun a ha => (sc2.1 a (by omega)).trans (fr1 a ha)
    have r2 := s2.2.2.2.2.2.2.2.2
    rcases h with ⟨_, _, h⟩ | ⟨_, _, h⟩
    · obtain ⟨M3, h1, h2⟩ := h
      have sc3 := sc_fF hI2.2.2.2.1 hI2.2.2.2.2 h1
      have hI3 := ci_sc hI2 sc3
      rcases h2 with ⟨c, c1, c2, c3, c4, c5⟩ | ⟨_, h2⟩
      · have f := c5.1
        have g0 := hI2.1.1
        refine ⟨⟨tw_fr (fun a ha => f a (by omega) (by omega)) hI3.1, ?_, ?_, ?_, ?_⟩, fun a ha => (f a (by omega) (by omega)).trans ((sc3.1 a (by omega)).trans (fr2 a ha))⟩
        · have hV := hI3.2.1
          unfold sv at hV ⊢
          rw [f 17 (by decide) (by decide), f 18 (by decide) (by decide), f 27 (by decide) (by decide), f 29 (by decide) (by decide)]
          refine ⟨hV.1, hV.2.1, hV.2.2.1, fun d p hd hp => ?_, hV.2.2.2.2⟩
          rw [f (20 + 1 + d) (by omega) (by omega)]
          exact hV.2.2.2.1 d p hd hp
        · have hH := hI3.2.2.1
          unfold hv at hH ⊢
          rw [f 33 (by decide) (by decide), f 34 (by decide) (by decide), f 37 (by decide) (by decide), f 38 (by decide) (by decide), f 0 (by decide) (by decide), c5.2.2.1]
          have := ct_le c (M2 1 0).toNat (M2 1 0).toNat
          exact ⟨hH.1, hH.2.1, hH.2.2.1, ⟨by omega, by omega⟩, c5.2.2.2.2, hH.2.2.2.2.2.1, hH.2.2.2.2.2.2.1, hH.2.2.2.2.2.2.2⟩
        · rw [f 17 (by decide) (by decide)]; exact hI3.2.2.2.1
        · rw [f 19 (by decide) (by decide)]; exact hI3.2.2.2.2
      · subst h2
        exact ⟨hI3, fun a ha => (sc3.1 a (by omega)).trans (fr2 a ha)⟩
    · subst h
      have k0 : ∀ a, a ≠ 0 → a ≠ 33 → a ≠ 34 → kpM M2 s a = M2 a := fun a h1 h2 h3 => by
        show sx_up _ 0 5 1 a = _
        rw [sx_up_ne h1]
        funext b
        show sx_cpy _ 32 34 0 0 6 a b = _
        unfold sx_cpy
        rw [if_neg (by omega), sx_up_ne h2, sx_up_ne h2]
      have k33 : ∀ b, kpM M2 s 33 b = if b = 1 then s else if b = 0 then 1 else M2 33 b := fun b => by
        show sx_up _ 0 5 1 33 b = _
        rw [sx_up_ne (by decide)]
        show sx_cpy _ 32 34 0 0 6 33 b = _
        unfold sx_cpy
        rw [if_neg (by omega)]
        by_cases e : b = 1
        · rw [e, if_pos rfl, sx_up_at]
        · rw [if_neg e, sx_up_slot e]
          by_cases e0 : b = 0
          · rw [e0, if_pos rfl, sx_up_at]
          · rw [if_neg e0, sx_up_slot e0]
      have k34 : ∀ b, b < 6 → kpM M2 s 34 b = M2 32 b := fun b hb => by
        show sx_up _ 0 5 1 34 b = _
        rw [sx_up_ne (by decide)]
        show sx_cpy _ 32 34 0 0 6 34 b = _
        unfold sx_cpy
        rw [if_pos (by omega), sx_up_ne (by decide), sx_up_ne (by decide)]
        simp
      have kz : kpM M2 s 0 5 = 1 := sx_up_at
      refine ⟨⟨tw_fr1 (fun a h1 h2 => k0 a (by omega) (by omega) (by omega)) hI2.1, ?_, ?_, ?_, ?_⟩, fun a ha => (k0 a (by omega) (by omega) (by omega)).trans (fr2 a ha)⟩
      · have hV := hI2.2.1
        unfold sv at hV ⊢
        rw [k0 17 (by decide) (by decide) (by decide), k0 18 (by decide) (by decide) (by decide), k0 27 (by decide) (by decide) (by decide), k0 29 (by decide) (by decide) (by decide)]
        refine ⟨hV.1, hV.2.1, hV.2.2.1, fun d p hd hp => ?_, hV.2.2.2.2⟩
        rw [k0 (20 + 1 + d) (by omega) (by omega) (by omega)]
        exact hV.2.2.2.1 d p hd hp
      · have hH := hI2.2.2.1
        unfold hv at hH ⊢
        rw [k33, k33, k0 35 (by decide) (by decide) (by decide), k0 36 (by decide) (by decide) (by decide), k0 37 (by decide) (by decide) (by decide), k0 38 (by decide) (by decide) (by decide), kz]
        refine ⟨Or.inr rfl, fun d hd => ?_, ⟨?_, ?_⟩, hH.2.2.2.1, hH.2.2.2.2.1, hH.2.2.2.2.2.1, hH.2.2.2.2.2.2.1, Or.inr rfl⟩
        · rw [k34 d hd]
          rcases b2 with ⟨b2, _⟩ | ⟨g0, b3, _, _, b4, _⟩
          · exact absurd b2 (by assumption)
          · rw [b4 d hd]
            by_cases e : d < (jW (ldM (rn1 M) (-1)) 31).1
            · rw [if_pos e]
              exact cp_bd (by show (ldM (rn1 M) (-1) 17 1).toNat ≤ 5; have := hIL.2.1.2.1; omega) b3 d (Nat.zero_le d) (by omega)
            · rw [if_neg e]; omega
        · rw [if_pos rfl]; omega
        · rw [if_pos rfl]; omega
      · rw [k0 17 (by decide) (by decide) (by decide)]; exact hI2.2.2.2.1
      · rw [k0 19 (by decide) (by decide) (by decide)]; exact hI2.2.2.2.2
def st34 (L : sx_M0) (g : Nat → Int) : sx_M0 := fun a => if a = 34 then g else L a
def stepX (L : sx_M0) (g g' : Nat → Int) : Prop := ∃ d p, x1 (st34 L g) d p ∧ g' = sx_up (st34 L g) 34 d (p : Int) 34
def noX (L : sx_M0) (g : Nat → Int) : Prop := ∀ d p, d < (L 1 0).toNat → p < (L 1 1).toNat → ¬ exS (st34 L g) d p
def chX (L : sx_M0) : Nat → (Nat → Int) → (Nat → Int) → Prop
  | 0, g, g' => g' = g
  | j + 1, g, g' => ∃ g1, chX L j g g1 ∧ stepX L g1 g'
theorem st_xF {L M : sx_M0} (h : xF L M) : xF (st34 L (M 34)) M := by
  refine ⟨fun a h1 h2 h3 => ?_, fun b hb => ?_⟩
  · rw [h.1 a h1 h2 h3]; exact (if_neg h3).symm
  · rw [h.2 b hb]; exact congrFun (if_neg (by decide)).symm b
def imI (L M : sx_M0) (j : Nat) : Prop := xF L M ∧ sv M ∧ hv M ∧ chX L j (L 34) (M 34)
theorem st34_ne {L : sx_M0} {g : Nat → Int} {a : Nat} (h : a ≠ 34) : st34 L g a = L a := if_neg h
theorem st34_at {L : sx_M0} {g : Nat → Int} : st34 L g 34 = g := if_pos rfl
theorem im_step {L M M1 : sx_M0} {j : Nat} (hT : tw L) (h : imI L M j) (hf : xF M M1) (hs : sv M1) (hx : ∃ d p, x1 M d p ∧ M1 34 = sx_up M 34 d (p : Int) 34) : imI L M1 (j + 1) := by
  obtain ⟨d, p, hx, e⟩ := hx
  have eL : M 1 = L 1 := h.1.1 1 (by decide) (by decide) (by decide)
  have gg : M 1 1 ≤ 5 := by rw [eL]; exact hT.2.1.2
  have g6 : M 1 0 ≤ 6 := by rw [eL]; exact hT.1.2
  have hq := hx.2.1
  have hd6 := hx.1
  refine ⟨xF_tr h.1 hf, hs, ?_, ⟨M 34, h.2.2.2, d, p, ?_, ?_⟩⟩
  · have hH := hv_34 h.2.2.1 (d := d) (p := p) (by omega)
    unfold hv at hH ⊢
    rw [e, hf.1 33 (by decide) (by decide) (by decide), hf.1 35 (by decide) (by decide) (by decide), hf.1 36 (by decide) (by decide) (by decide), hf.1 37 (by decide) (by decide) (by decide), hf.1 38 (by decide) (by decide) (by decide), hf.1 0 (by decide) (by decide) (by decide)]
    rw [sx_up_ne (a := 33) (by decide), sx_up_ne (a := 35) (by decide), sx_up_ne (a := 36) (by decide), sx_up_ne (a := 37) (by decide), sx_up_ne (a := 38) (by decide), sx_up_ne (a := 0) (by decide)] at hH
    exact hH
  · have f := st_xF h.1
    have e1 : st34 L (M 34) 1 = M 1 := (f.1 1 (by decide) (by decide) (by decide)).symm
    unfold x1 at hx ⊢
    rw [e1]
    refine ⟨hx.1, hx.2.1, (ex_fr f st34_at.symm (by omega)).mp hx.2.2.1, fun e q h1 h2 h3 => hx.2.2.2.1 e q h1 h2 ((ex_fr f st34_at.symm (by omega)).mpr h3), fun q h1 h3 => hx.2.2.2.2 q h1 ((ex_fr f st34_at.symm (by omega)).mpr h3)⟩
  · rw [e]
    funext b
    unfold sx_up
    rw [st34_at]
theorem im_no {L M : sx_M0} {j : Nat} (hT : tw L) (h : imI L M j) (hn : ∀ d p, d < (M 1 0).toNat → p < (M 1 1).toNat → ¬ exS M d p) : noX L (M 34) := fun d p h1 h2 h3 => by
  have eL : M 1 = L 1 := h.1.1 1 (by decide) (by decide) (by decide)
  have g6 := hT.1
  exact hn d p (by rw [eL]; exact h1) (by rw [eL]; exact h2) ((ex_fr (st_xF h.1) st34_at.symm (by omega)).mpr h3)
theorem im_fr {L M M1 : sx_M0} {j : Nat} (h : imI L M j) (hf : xF M M1) (hs : sv M1) (e : M1 34 = M 34) : imI L M1 j := by
  refine ⟨xF_tr h.1 hf, hs, ?_, by rw [e]; exact h.2.2.2⟩
  have hH := h.2.2.1
  unfold hv at hH ⊢
  rw [e, hf.1 33 (by decide) (by decide) (by decide), hf.1 35 (by decide) (by decide) (by decide), hf.1 36 (by decide) (by decide) (by decide), hf.1 37 (by decide) (by decide) (by decide), hf.1 38 (by decide) (by decide) (by decide), hf.1 0 (by decide) (by decide) (by decide)]
  exact hH
def ipP (M M' : sx_M0) (k r : Int) : Prop := ((M 33 0 = 0 ∨ k < 0) ∧ r = -1 ∧ M' = M) ∨ (M 33 0 = 1 ∧ 0 ≤ k ∧ ∃ M1 j, r = (j : Nat) ∧ imI (ldM M (-1)) M1 j ∧ (j : Int) ≤ (if 15625 < k then 15625 else k) ∧ ((j : Int) = (if 15625 < k then 15625 else k) ∨ noX (ldM M (-1)) (M1 34)) ∧ M' = sx_up M1 33 1 (rtS M1 (M1 1 0).toNat))
set_option maxRecDepth 100000 in
set_option maxHeartbeats 4000000 in
theorem lp_Si_improve  (M : sx_M0) (hI : ci M) (k : Int) (hk : sx_r32 k) (hz1 : M 33 0 = 1) (hk0 : 0 ≤ k) {E : sx_E} (C : sx_C SC g_tbl "SiteChoice" c_Si_improve E) (Rr : sx_Ret SC (some .int) (rmk 5 200) (fun r G' M' => G' = GL ∧ ∃ q : Int, r = some (sx_I q) ∧ ipP M M' k q) E) (hnL : sx_nL E = 4) : ∀ (nF : Nat) (j : Nat) (X : sx_M0), ((if 15625 < k then 15625 else k)).toNat - j < nF → imI (ldM M (-1)) X j → (j : Int) ≤ (if 15625 < k then 15625 else k) → sx_X SC E (0, 0) GL X 38 [(3, sx_I (((j : Nat) : Int))), (2, sx_I ((if 15625 < k then 15625 else k))), (0, sx_A (0)), (1, sx_I (k))] [] := by
  intro nF
  induction nF with
  | zero => intro j X h; omega
  | succ nF ih =>
    intro j X hn h h2
    have hIL : ci (ldM M (-1)) := ci_sc hI (sc_ld hI (-1))
    have f := h.1.1
    have hTX : tw X := tw_fr (fun a ha => f a (by omega) (by omega) (by omega)) hIL.1
    have hRX : ∀ p, p < 5 → 0 ≤ X 19 p ∧ X 19 p ≤ 1000 := fun p hp => by rw [f 19 (by decide) (by decide) (by decide)]; exact hIL.2.2.2.2 p hp
    have hlm : 0 ≤ (if 15625 < k then 15625 else k) ∧ (if 15625 < k then 15625 else k) ≤ 15625 := by split <;> omega
    refine sx_iload_n C 0 d_Si_improve_38 rfl rfl ?_
    refine sx_iload_n C 1 d_Si_improve_39 rfl rfl ?_
    refine sx_icmp_ge C 67 ⟨by omega, by omega⟩ ⟨by omega, by omega⟩ d_Si_improve_40 (by decide) (fun c40 => ?_) (fun c40 => ?_)
    · refine sx_aload_n C 2 d_Si_improve_67 rfl rfl ?_
      refine sx_getr C f_Si_26 33 (by decide) rfl rfl d_Si_improve_68 ?_
      refine sx_aload_n C 2 d_Si_improve_71 rfl rfl ?_
      refine sx_getr C f_Si_12 1 (by decide) rfl rfl d_Si_improve_72 ?_
      refine sx_callV (n := 71) (As := [sx_A (1)]) (st := []) C (ct_He_reckonTotal _ _ _ X hTX h.2.2.1) rfl (by decide) rfl (cv_Si_168 E C _ (by rw [Rr.2.2]; decide)) (Nat.le_of_ble_eq_true rfl) d_Si_improve_75 (by rw [Rr.2.2]; decide) (by decide) rfl rfl rfl (fun r75 G75 X75 hpo _ => ?_)
      obtain ⟨e1, e2, rfl⟩ := hpo
      rw [e1, e2]
      show sx_X SC E (0, 0) GL (sx_up X 33 1 (rtS X (X 1 0).toNat)) 78 [(3, sx_I (((j : Nat) : Int))), (2, sx_I ((if 15625 < k then 15625 else k))), (0, sx_A (0)), (1, sx_I (k))] []
      refine sx_iload_n C 0 d_Si_improve_78 rfl rfl ?_
      refine sx_ireturn C Rr rfl d_Si_improve_79 ?_
      exact ⟨rfl, _, rfl, Or.inr ⟨hz1, hk0, X, j, rfl, h, by omega, Or.inl (by omega), rfl⟩⟩
    · refine sx_aload_n C 2 d_Si_improve_43 rfl rfl ?_
      refine sx_getr C f_Si_26 33 (by decide) rfl rfl d_Si_improve_44 ?_
      refine sx_aload_n C 2 d_Si_improve_47 rfl rfl ?_
      refine sx_getr C f_Si_12 1 (by decide) rfl rfl d_Si_improve_48 ?_
      refine sx_aload_n C 2 d_Si_improve_51 rfl rfl ?_
      refine sx_getr C f_Si_19 17 (by decide) rfl rfl d_Si_improve_52 ?_
      refine sx_callV (n := 71) (As := [sx_A (1), sx_A (17)]) (st := []) C (ct_He_exchangeFirst _ _ _ X hTX h.2.1 h.2.2.1 hRX) rfl (by decide) rfl (cv_Si_164 E C _ (by rw [Rr.2.2]; decide)) (Nat.le_of_ble_eq_true rfl) d_Si_improve_55 (by rw [Rr.2.2]; decide) (by decide) rfl rfl rfl (fun r55 G55 X55 hpo _ => ?_)
      obtain ⟨e1, f55, s55, q55⟩ := hpo
      rw [e1]
      obtain ⟨b55, hb55, hc55⟩ : ∃ b55 : Int, r55 = some (sx_I b55) ∧ (b55 = 0 ∨ b55 = 1) := by rcases q55 with ⟨z0, -⟩ | ⟨z0, -⟩; exact ⟨1, z0, Or.inr rfl⟩; exact ⟨0, z0, Or.inl rfl⟩
      subst hb55
      show sx_X SC E (0, 0) GL X55 58 [(3, sx_I (((j : Nat) : Int))), (2, sx_I ((if 15625 < k then 15625 else k))), (0, sx_A (0)), (1, sx_I (k))] [sx_I (b55)]
      refine sx_if_eq C 67 ⟨by omega, by omega⟩ d_Si_improve_58 (by decide) (fun c58 => ?_) (fun c58 => ?_)
      · refine sx_aload_n C 2 d_Si_improve_67 rfl rfl ?_
        refine sx_getr C f_Si_26 33 (by decide) rfl rfl d_Si_improve_68 ?_
        refine sx_aload_n C 2 d_Si_improve_71 rfl rfl ?_
        refine sx_getr C f_Si_12 1 (by decide) rfl rfl d_Si_improve_72 ?_
        refine sx_callV (n := 71) (As := [sx_A (1)]) (st := []) C (ct_He_reckonTotal _ _ _ X55 (tw_fr (fun a ha => f55.1 a (by omega) (by omega) (by omega)) hTX) (by rcases q55 with ⟨z0, _⟩ | ⟨_, z1, z2⟩; (exfalso; cases z0; omega); exact (im_fr h f55 s55 z2).2.2.1)) rfl (by decide) rfl (cv_Si_168 E C _ (by rw [Rr.2.2]; decide)) (Nat.le_of_ble_eq_true rfl) d_Si_improve_75 (by rw [Rr.2.2]; decide) (by decide) rfl rfl rfl (fun r75 G75 X75 hpo _ => ?_)
        obtain ⟨e1, e2, rfl⟩ := hpo
        rw [e1, e2]
        show sx_X SC E (0, 0) GL (sx_up X55 33 1 (rtS X55 (X55 1 0).toNat)) 78 [(3, sx_I (((j : Nat) : Int))), (2, sx_I ((if 15625 < k then 15625 else k))), (0, sx_A (0)), (1, sx_I (k))] []
        refine sx_iload_n C 0 d_Si_improve_78 rfl rfl ?_
        refine sx_ireturn C Rr rfl d_Si_improve_79 ?_
        rcases q55 with ⟨z0, _⟩ | ⟨_, z1, z2⟩
        · exfalso; cases z0; omega
        · exact ⟨rfl, _, rfl, Or.inr ⟨hz1, hk0, X55, j, rfl, im_fr h f55 s55 z2, by omega, Or.inr (by rw [z2]; exact im_no hIL.1 h z1), rfl⟩⟩
      · refine sx_iinc (lv' := [(3, sx_I (((j + 1 : Nat) : Int))), (2, sx_I ((if 15625 < k then 15625 else k))), (0, sx_A (0)), (1, sx_I (k))]) C 0 d_Si_improve_61 rfl (by rw [hnL]; decide) rfl ?_
        refine sx_goto C 38 d_Si_improve_64 (by decide) ?_
        refine sx_sub [0, 1, 2, 3] rfl ?_
        rcases q55 with ⟨_, z1⟩ | ⟨z0, _⟩
        · exact ih (j + 1) X55 (by omega) (im_step hIL.1 h f55 s55 z1) (by omega)
        · exfalso; cases z0; omega
set_option maxRecDepth 100000 in
set_option maxHeartbeats 4000000 in
theorem ct_Si_improve (l : Launch) (D : va_G) (tc : Nat → ClassId) (M : sx_M0) (hI : ci M) (k : Int) (hk : sx_r32 k) : sx_Met SC l D tc y_Si_improve w_Si_improve (rmk 5 200) [sx_A (0), sx_I (k)] GL M (fun r G' M' => G' = GL ∧ ∃ q : Int, r = some (sx_I q) ∧ ipP M M' k q) := by
  refine sx_enter (by decide) rfl (Nat.le_of_ble_eq_true rfl) (Ts := g_tbl) (fun _ h => List.mem_cons_of_mem _ h) (fun E C Rr hnm hnL => ?_)
  have hT := hI.1
  refine sx_aload_n C 0 d_Si_improve_0 rfl rfl ?_
  refine sx_getr C f_Si_26 33 (by decide) rfl rfl d_Si_improve_1 ?_
  refine sx_getz C f_Si_146 (by decide) rfl d_Si_improve_4 ?_
  have hz := hI.2.2.1.1
  refine sx_if_eq C 14 ⟨by omega, by omega⟩ d_Si_improve_7 (by decide) (fun c7 => ?_) (fun c7 => ?_)
  · refine sx_iconst C d_Si_improve_14 ?_
    refine sx_ireturn C Rr rfl d_Si_improve_15 ?_
    exact ⟨rfl, -1, rfl, Or.inl ⟨by omega, rfl, rfl⟩⟩
  · refine sx_iload_n C 1 d_Si_improve_10 rfl rfl ?_
    refine sx_if_ge C 16 ⟨by omega, by omega⟩ d_Si_improve_11 (by decide) (fun c11 => ?_) (fun c11 => ?_)
    · refine sx_aload_n C 0 d_Si_improve_16 rfl rfl ?_
      refine sx_getr C f_Si_19 17 (by decide) rfl rfl d_Si_improve_17 ?_
      refine sx_aload_n C 0 d_Si_improve_20 rfl rfl ?_
      refine sx_getr C f_Si_12 1 (by decide) rfl rfl d_Si_improve_21 ?_
      refine sx_iconst C d_Si_improve_24 ?_
      refine sx_callV (n := 71) (As := [sx_A (1), sx_I (-1)]) (st := []) C (ct_Se_load _ _ _ M hT (-1) ⟨by decide, by decide⟩) rfl (by decide) rfl (cv_Si_117 E C _ (by rw [Rr.2.2]; decide)) (Nat.le_of_ble_eq_true rfl) d_Si_improve_25 (by rw [Rr.2.2]; decide) (by decide) rfl rfl rfl (fun r25 G25 M25 hpo _ => ?_)
      obtain ⟨e1, e2, rfl⟩ := hpo
      rw [e1, e2]
      show sx_X SC E (0, 0) GL (ldM M (-1)) 28 [(0, sx_A (0)), (1, sx_I (k))] []
      refine sx_iload_n C 1 d_Si_improve_28 rfl rfl ?_
      refine sx_sipush C d_Si_improve_29 (by decide) ?_
      refine sx_imin C ⟨by omega, by omega⟩ ⟨by omega, by omega⟩ (tb_ 455 (by decide +kernel) rfl) (tb_ 456 (by decide +kernel) rfl) (tb_ 9 (by decide +kernel) rfl) (tb_ 457 rfl rfl) (by rw [Rr.2.2]; decide) (by rw [Rr.2.2]; decide) (by rw [Rr.2.2]; decide) (by rw [Rr.2.2]; decide) d_Si_improve_32 ?_
      refine sx_istore_n (lv' := [(2, sx_I (if 15625 < k then 15625 else k)), (0, sx_A (0)), (1, sx_I (k))]) C d_Si_improve_35 rfl (by rw [hnL]; decide) rfl ?_
      refine sx_iconst C d_Si_improve_36 ?_
      refine sx_istore_n (lv' := [(3, sx_I (0)), (2, sx_I (if 15625 < k then 15625 else k)), (0, sx_A (0)), (1, sx_I (k))]) C d_Si_improve_37 rfl (by rw [hnL]; decide) rfl ?_
      refine sx_sub [0, 1, 2, 3] rfl ?_
      exact lp_Si_improve M hI k hk (by omega) (by omega) C Rr hnL _ 0 (ldM M (-1)) (Nat.lt_succ_self _) ⟨⟨fun _ _ _ _ => rfl, fun _ _ => rfl⟩, (sc_ld hI (-1)).2.1, (ci_sc hI (sc_ld hI (-1))).2.2.1, rfl⟩ (by have : 0 ≤ k := (by omega); show (0 : Int) ≤ _; split <;> omega)
    · refine sx_iconst C d_Si_improve_14 ?_
      refine sx_ireturn C Rr rfl d_Si_improve_15 ?_
      exact ⟨rfl, -1, rfl, Or.inl ⟨by omega, rfl, rfl⟩⟩
