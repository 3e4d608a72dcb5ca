set_option maxRecDepth 100000 in
set_option maxHeartbeats 4000000 in
theorem lp_Se_giveEachPlace  {n : Nat} (hg : ∀ l D tc, ctG l D tc n) (M0 : sx_M0) (d s : Nat) (c : Int) (hI : gvI M0 d s c) (hd : d < dN M0) (hd6 : d < 6) (hnd : M0 18 d ≠ 0) (hm : dN M0 - d ≤ n + 1) {E : sx_E} (C : sx_C SC g_tbl "SiteChoice$Search" c_Se_giveEachPlace E) (Rr : sx_Ret SC none (rmE n) (fun r G' M' => G' = GL ∧ r = none ∧ gvP M0 M' d s c) E) (hnL : sx_nL E = 7) : ∀ (nF : Nat) (p : Nat) (M : sx_M0), (M0 17 1).toNat - p < nF → gepI M0 M d s c p → p ≤ (M0 17 1).toNat → sx_X SC E (0, 0) GL M 3 [(5, sx_I (((p : Nat) : Int))), (0, sx_A (17)), (1, sx_I (((d : Nat) : Int))), (2, sx_I (((s : Nat) : Int))), (3, sx_J (c))] [] := by
  intro nF
  induction nF with
  | zero => intro p M h; omega
  | succ nF ih =>
    intro p M hn h1 h2
    have hF := h1.1
    have hVM := sv_fr hI.1 hF
    have eP : M 17 1 = M0 17 1 := hF.2.1 1 (by decide)
    have g1 := hI.1.2.1
    have g0 := hI.1.1
    have e18 : M 18 = M0 18 := hF.1 18 (by decide) (by decide) (by decide)
    have e30 : M 30 = M0 30 := hF.1 30 (by decide) (by decide) (by decide)
    have e27 : M 27 = M0 27 := hF.1 27 (by decide) (by decide) (by decide)
    have eR : M (20 + 1 + d) = M0 (20 + 1 + d) := hF.1 _ (by omega) (by omega) (by omega)
    have eJ : jS M = jS M0 := jS_eq hF.2.1 (fun a h1 _ h3 h4 => hF.1 a h1 h3 h4)
    have hl : ∀ p, p < 5 → -1000 ≤ M 30 p ∧ M 30 p ≤ 1000 := fun p hp => by rw [e30]; have := hI.2.2.1 p hp; omega
    have hD1 : dN (sx_up (sx_up M 30 p (M 30 p - M 18 d)) 31 d (p : Int)) = dN M0 := dN_eq (fun b hb => by rw [sx_up_ne (by decide), sx_up_ne (by decide)]; exact hF.2.1 b hb)
    refine sx_iload C 0 d_Se_giveEachPlace_3 rfl ?_
    refine sx_aload_n C 1 d_Se_giveEachPlace_5 rfl rfl ?_
    refine sx_geti C f_Se_15 (by decide) rfl d_Se_giveEachPlace_6 ?_
    refine sx_icmp_ge C 113 ⟨by omega, by omega⟩ ⟨by omega, by omega⟩ d_Se_giveEachPlace_9 (by decide) (fun c9 => ?_) (fun c9 => ?_)
    · refine sx_return C Rr rfl d_Se_giveEachPlace_113 ?_
      exact ⟨rfl, rfl, gep_end hd hnd (by omega) h1⟩
    · refine sx_iload_n C 3 d_Se_giveEachPlace_12 rfl rfl ?_
      refine sx_iconst C d_Se_giveEachPlace_13 ?_
      refine sx_iload C 0 d_Se_giveEachPlace_14 rfl ?_
      refine sx_ishl C d_Se_giveEachPlace_16 ?_
      refine sx_ior C d_Se_giveEachPlace_17 ?_
      rw [(or_bit s hI.2.2.2.2.2.1 p (by omega)).1]
      have hs2 := (or_bit s hI.2.2.2.2.2.1 p (by omega)).2
      refine sx_istore (lv' := [(6, sx_I (((s ||| 2 ^ p : Nat) : Int))), (5, sx_I (((p : Nat) : Int))), (0, sx_A (17)), (1, sx_I (((d : Nat) : Int))), (2, sx_I (((s : Nat) : Int))), (3, sx_J (c))]) C d_Se_giveEachPlace_18 (by rw [hnL]; decide) rfl ?_
      refine sx_aload_n C 2 d_Se_giveEachPlace_20 rfl rfl ?_
      refine sx_iload C 1 d_Se_giveEachPlace_21 rfl ?_
      refine sx_iload_n C 3 d_Se_giveEachPlace_23 rfl rfl ?_
      refine sx_callV (n := 71) (As := [sx_I (((p : Nat) : Int)), sx_I (((d : Nat) : Int))]) (st := []) C (ct_Se_canTake _ _ _ M hVM hl p d (by omega) hd6) rfl (by decide) rfl (cv_Se_153 E C _ (by rw [Rr.2.2]; exact ⟨by dsimp only; omega, by dsimp only; omega⟩)) (Nat.le_of_ble_eq_true rfl) d_Se_giveEachPlace_24 (by rw [Rr.2.2]; exact ⟨Nat.le_refl _, Nat.le_refl _⟩) (by decide) rfl rfl rfl (fun r24 G24 M24 hpo _ => ?_)
      obtain ⟨e1, e2, b24, rfl, hb24⟩ := hpo
      rw [e1, e2]
      show sx_X SC E (0, 0) GL M 27 [(6, sx_I (((s ||| 2 ^ p : Nat) : Int))), (5, sx_I (((p : Nat) : Int))), (0, sx_A (17)), (1, sx_I (((d : Nat) : Int))), (2, sx_I (((s : Nat) : Int))), (3, sx_J (c))] [sx_I (b24)]
      refine sx_if_eq C 107 ⟨by omega, by omega⟩ d_Se_giveEachPlace_27 (by decide) (fun c27 => ?_) (fun c27 => ?_)
      · refine sx_iinc (lv' := [(5, sx_I (((p + 1 : Nat) : Int))), (6, sx_I (((s ||| 2 ^ p : Nat) : Int))), (0, sx_A (17)), (1, sx_I (((d : Nat) : Int))), (2, sx_I (((s : Nat) : Int))), (3, sx_J (c))]) C 1 d_Se_giveEachPlace_107 rfl (by rw [hnL]; decide) rfl ?_
        refine sx_goto C 3 d_Se_giveEachPlace_110 (by decide) ?_
        refine sx_sub [0, 2, 3, 4, 5] rfl ?_
        refine ih (p + 1) M (by omega) (gep_skip hd hd6 hnd ?_ h1) (by omega)
        rintro ⟨z1, z2, z3, z4⟩
        rcases hb24 with ⟨q1, q2⟩ | ⟨q1, q2⟩
        · rw [← e27] at z4; omega
        · exact q2 ⟨by rw [eJ]; exact z1, by rw [eR]; exact z2, by rw [e18, e30]; exact z3⟩
      · refine sx_aload_n C 2 d_Se_giveEachPlace_30 rfl rfl ?_
        refine sx_getr C f_Se_30 27 (by decide) rfl rfl d_Se_giveEachPlace_31 ?_
        have hmo := hVM.2.2.2.2.1 (s ||| 2 ^ p) hs2
        refine sx_iload C 0 d_Se_giveEachPlace_34 rfl ?_
        refine sx_zaload C (s ||| 2 ^ p) (by decide) rfl rfl rfl (by omega) (by decide) d_Se_giveEachPlace_36 ?_
        refine sx_if_eq C 107 ⟨by omega, by omega⟩ d_Se_giveEachPlace_37 (by decide) (fun c37 => ?_) (fun c37 => ?_)
        · refine sx_iinc (lv' := [(5, sx_I (((p + 1 : Nat) : Int))), (6, sx_I (((s ||| 2 ^ p : Nat) : Int))), (0, sx_A (17)), (1, sx_I (((d : Nat) : Int))), (2, sx_I (((s : Nat) : Int))), (3, sx_J (c))]) C 1 d_Se_giveEachPlace_107 rfl (by rw [hnL]; decide) rfl ?_
          refine sx_goto C 3 d_Se_giveEachPlace_110 (by decide) ?_
          refine sx_sub [0, 2, 3, 4, 5] rfl ?_
          refine ih (p + 1) M (by omega) (gep_skip hd hd6 hnd ?_ h1) (by omega)
          rintro ⟨z1, z2, z3, z4⟩
          rcases hb24 with ⟨q1, q2⟩ | ⟨q1, q2⟩
          · rw [← e27] at z4; omega
          · exact q2 ⟨by rw [eJ]; exact z1, by rw [eR]; exact z2, by rw [e18, e30]; exact z3⟩
        · have hy : (jS M).2.2.2.2.2.testBit p = true ∧ M (20 + 1 + d) p ≠ -1 ∧ M 18 d ≤ M 30 p := by
            rcases hb24 with ⟨q1, q2⟩ | ⟨q1, q2⟩
            · exact q2
            · omega
          refine sx_aload_n C 2 d_Se_giveEachPlace_40 rfl rfl ?_
          refine sx_getr C f_Se_40 30 (by decide) rfl rfl d_Se_giveEachPlace_41 ?_
          refine sx_iload C 1 d_Se_giveEachPlace_44 rfl ?_
          refine sx_dup2_11 C d_Se_giveEachPlace_46 rfl rfl ?_
          refine sx_laload C p (by decide) rfl rfl rfl (by omega) (by decide) d_Se_giveEachPlace_47 ?_
          refine sx_aload_n C 2 d_Se_giveEachPlace_48 rfl rfl ?_
          refine sx_getr C f_Se_18 18 (by decide) rfl rfl d_Se_giveEachPlace_49 ?_
          refine sx_iload_n C 3 d_Se_giveEachPlace_52 rfl rfl ?_
          refine sx_laload C d (by decide) rfl rfl rfl (by omega) (by decide) d_Se_giveEachPlace_53 ?_
          refine sx_lsub C d_Se_giveEachPlace_54 ?_
          refine sx_lastore C p (by decide) rfl rfl rfl (by omega) (by decide) d_Se_giveEachPlace_55 ?_
          refine sx_aload_n C 2 d_Se_giveEachPlace_56 rfl rfl ?_
          refine sx_getr C f_Se_43 31 (by decide) rfl rfl d_Se_giveEachPlace_57 ?_
          refine sx_iload_n C 3 d_Se_giveEachPlace_60 rfl rfl ?_
          refine sx_iload C 1 d_Se_giveEachPlace_61 rfl ?_
          refine sx_iastore C d (by decide) rfl rfl rfl (by omega) (by decide) d_Se_giveEachPlace_63 ?_
          refine sx_aload_n C 2 d_Se_giveEachPlace_64 rfl rfl ?_
          refine sx_iload_n C 3 d_Se_giveEachPlace_65 rfl rfl ?_
          refine sx_iconst C d_Se_giveEachPlace_66 ?_
          refine sx_iadd C d_Se_giveEachPlace_67 ?_
          refine sx_iload C 0 d_Se_giveEachPlace_68 rfl ?_
          refine sx_lload_n C 5 d_Se_giveEachPlace_70 rfl rfl ?_
          refine sx_aload_n C 2 d_Se_giveEachPlace_71 rfl rfl ?_
          refine sx_getr C f_Se_18 18 (by decide) rfl rfl d_Se_giveEachPlace_72 ?_
          refine sx_iload_n C 3 d_Se_giveEachPlace_75 rfl rfl ?_
          refine sx_laload C d (by decide) rfl rfl rfl (by omega) (by decide) d_Se_giveEachPlace_76 ?_
          rw [sx_up_ne (by decide), sx_up_ne (by decide)]
          refine sx_aload_n C 2 d_Se_giveEachPlace_77 rfl rfl ?_
          refine sx_getr C f_Se_27 20 (by decide) rfl rfl d_Se_giveEachPlace_78 ?_
          refine sx_iload_n C 3 d_Se_giveEachPlace_81 rfl rfl ?_
          refine sx_aaload C d (20 + 1 + d) (by decide) rfl rfl rfl (by omega) (by decide) (if_pos (by omega)) d_Se_giveEachPlace_82 ?_
          refine sx_iload C 1 d_Se_giveEachPlace_83 rfl ?_
          refine sx_laload C p (by show (20 + 1 + d) < 71; omega) (gl_20 _ (by omega)) rfl rfl (by omega) (by decide) d_Se_giveEachPlace_85 ?_
          rw [sx_up_ne (by omega), sx_up_ne (by omega)]
          refine sx_lmul C d_Se_giveEachPlace_86 ?_
          refine sx_ladd C d_Se_giveEachPlace_87 ?_
          refine sx_callV (n := 71) (As := [sx_I (((d : Nat) : Int) + 1), sx_I (((s ||| 2 ^ p : Nat) : Int)), sx_J (c + (M 18 d) * (M (20 + 1 + d) p))]) (st := []) C (hg _ _ _ _ (d + 1) (s ||| 2 ^ p) _ (gvI_take hI hF hd (by omega) hnd (by rw [← eR]; exact hy.2.1) (by rw [← e18, ← e30]; exact hy.2.2)) (by rw [hD1]; omega)) rfl (by decide) rfl (cv_Se_123 E C _ (by rw [Rr.2.2]; exact ⟨by dsimp only; omega, by dsimp only; omega⟩)) (Nat.le_of_ble_eq_true rfl) d_Se_giveEachPlace_88 (by rw [Rr.2.2]; exact ⟨Nat.le_refl _, Nat.le_refl _⟩) (by decide) rfl rfl rfl (fun r88 G88 M88 hpo _ => ?_)
          obtain ⟨e1, rfl, h88⟩ := hpo
          rw [e1]
          show sx_X SC E (0, 0) GL M88 91 [(6, sx_I (((s ||| 2 ^ p : Nat) : Int))), (5, sx_I (((p : Nat) : Int))), (0, sx_A (17)), (1, sx_I (((d : Nat) : Int))), (2, sx_I (((s : Nat) : Int))), (3, sx_J (c))] []
          refine sx_aload_n C 2 d_Se_giveEachPlace_91 rfl rfl ?_
          refine sx_getr C f_Se_40 30 (by decide) rfl rfl d_Se_giveEachPlace_92 ?_
          refine sx_iload C 1 d_Se_giveEachPlace_95 rfl ?_
          refine sx_dup2_11 C d_Se_giveEachPlace_97 rfl rfl ?_
          refine sx_laload C p (by decide) rfl rfl rfl (by omega) (by decide) d_Se_giveEachPlace_98 ?_
          refine sx_aload_n C 2 d_Se_giveEachPlace_99 rfl rfl ?_
          refine sx_getr C f_Se_18 18 (by decide) rfl rfl d_Se_giveEachPlace_100 ?_
          refine sx_iload_n C 3 d_Se_giveEachPlace_103 rfl rfl ?_
          refine sx_laload C d (by decide) rfl rfl rfl (by omega) (by decide) d_Se_giveEachPlace_104 ?_
          refine sx_ladd C d_Se_giveEachPlace_105 ?_
          refine sx_lastore C p (by decide) rfl rfl rfl (by omega) (by decide) d_Se_giveEachPlace_106 ?_
          refine sx_iinc (lv' := [(5, sx_I (((p + 1 : Nat) : Int))), (6, sx_I (((s ||| 2 ^ p : Nat) : Int))), (0, sx_A (17)), (1, sx_I (((d : Nat) : Int))), (2, sx_I (((s : Nat) : Int))), (3, sx_J (c))]) C 1 d_Se_giveEachPlace_107 rfl (by rw [hnL]; decide) rfl ?_
          refine sx_goto C 3 d_Se_giveEachPlace_110 (by decide) ?_
          refine sx_sub [0, 2, 3, 4, 5] rfl ?_
          exact ih (p + 1) _ (by omega) (gep_take hI.1 hd hd6 (by omega) hnd ⟨by rw [← eJ]; exact hy.1, by rw [← eR]; exact hy.2.1, by rw [← e18, ← e30]; exact hy.2.2, by rw [← e27]; omega⟩ hI.2.2.2.2.2.2.1 h1 h88) (by omega)
set_option maxRecDepth 100000 in
set_option maxHeartbeats 4000000 in
theorem ct_Se_giveEachPlace (l : Launch) (D : va_G) (tc : Nat → ClassId) {n : Nat} (hg : ∀ l D tc, ctG l D tc n) (M : sx_M0) (d s : Nat) (c : Int) (hI : gvI M d s c) (hd : d < dN M) (hd6 : d < 6) (hnd : M 18 d ≠ 0) (hm : dN M - d ≤ n + 1) : sx_Met SC l D tc y_Se_giveEachPlace w_Se_giveEachPlace (rmE n) [sx_A (17), sx_I (((d : Nat) : Int)), sx_I (((s : Nat) : Int)), sx_J (c)] GL M (fun r G' M' => G' = GL ∧ r = none ∧ gvP M M' d s c) := by
  refine sx_enter (by decide) rfl (Nat.le_of_ble_eq_true rfl) (Ts := g_tbl) (fun _ h => List.mem_cons_of_mem _ h) (fun E C Rr hnm hnL => ?_)
  refine sx_iconst C d_Se_giveEachPlace_0 ?_
  refine sx_istore (lv' := [(5, sx_I (0)), (0, sx_A (17)), (1, sx_I (((d : Nat) : Int))), (2, sx_I (((s : Nat) : Int))), (3, sx_J (c))]) C d_Se_giveEachPlace_1 (by rw [hnL]; decide) rfl ?_
  refine sx_sub [0, 1, 2, 3, 4] rfl ?_
  exact lp_Se_giveEachPlace hg M d s c hI hd hd6 hnd hm C Rr hnL _ 0 M (Nat.lt_succ_self _) (gep_0 hI.1 hd hnd) (Nat.zero_le _)
set_option maxRecDepth 100000 in
set_option maxHeartbeats 4000000 in
theorem ct_Se_give : ∀ (n : Nat) (l : Launch) (D : va_G) (tc : Nat → ClassId), ctG l D tc n := by
  intro n
  induction n with
  | zero =>
    intro l D tc M k s c hI hm
    refine sx_enter (by decide) rfl (Nat.le_of_ble_eq_true rfl) (Ts := g_tbl) (fun _ h => List.mem_cons_of_mem _ h) (fun E C Rr hnm hnL => ?_)
    have hV := hI.1
    have g0 := hV.1
    have hb := nwS_bd M (dN M - k) k
    have hkD := hI.2.2.2.2.1
    have hD6 : dN M ≤ 6 := by unfold dN; omega
    have hDe : ((dN M : Nat) : Int) = M 17 0 := by unfold dN; omega
    have hc0 := hI.2.2.2.2.2.2.1
    have hc1 := hI.2.2.2.2.2.2.2
    refine sx_aload_n C 0 d_Se_give_0 rfl rfl ?_
    refine sx_iload_n C 1 d_Se_give_1 rfl rfl ?_
    refine sx_callV (n := 71) (As := [sx_I (((k : Nat) : Int))]) (st := []) C (ct_Se_nextWithNeed _ _ _ M hV k hkD) rfl (by decide) rfl (cv_Se_138 E C _ (by rw [Rr.2.2]; exact ⟨by dsimp only; omega, by dsimp only; omega⟩)) (Nat.le_of_ble_eq_true rfl) d_Se_give_2 (by rw [Rr.2.2]; exact ⟨Nat.le_refl _, Nat.le_refl _⟩) (by decide) rfl rfl rfl (fun r2 G2 M2 hpo _ => ?_)
    obtain ⟨e1, e2, rfl⟩ := hpo
    rw [e1, e2]
    clear e1 e2
    show sx_X SC E (0, 0) GL M 5 [(0, sx_A (17)), (1, sx_I (((k : Nat) : Int))), (2, sx_I (((s : Nat) : Int))), (3, sx_J (c))] [sx_I (((nwS M (dN M - k) k : Nat) : Int))]
    refine sx_istore (lv' := [(5, sx_I (((nwS M (dN M - k) k : Nat) : Int))), (0, sx_A (17)), (1, sx_I (((k : Nat) : Int))), (2, sx_I (((s : Nat) : Int))), (3, sx_J (c))]) C d_Se_give_5 (by rw [hnL]; decide) rfl ?_
    refine sx_iload C 0 d_Se_give_7 rfl ?_
    refine sx_aload_n C 1 d_Se_give_9 rfl rfl ?_
    refine sx_geti C f_Se_9 (by decide) rfl d_Se_give_10 ?_
    refine sx_icmp_lt C 24 ⟨by omega, by omega⟩ ⟨by omega, by omega⟩ d_Se_give_13 (by decide) (fun c13 => ?_) (fun c13 => ?_)
    · exfalso; omega
    · refine sx_aload_n C 1 d_Se_give_16 rfl rfl ?_
      refine sx_lload_n C 4 d_Se_give_17 rfl rfl ?_
      refine sx_callV (n := 71) (As := [sx_J (c)]) (st := []) C (ct_Se_keepIfBetter _ _ _ M hV c (by constructor <;> omega)) rfl (by decide) rfl (cv_Se_142 E C _ (by rw [Rr.2.2]; exact ⟨by dsimp only; omega, by dsimp only; omega⟩)) (Nat.le_of_ble_eq_true rfl) d_Se_give_18 (by rw [Rr.2.2]; exact ⟨Nat.le_refl _, Nat.le_refl _⟩) (by decide) rfl rfl rfl (fun r18 G18 M18 hpo _ => ?_)
      obtain ⟨e1, e2, rfl⟩ := hpo
      rw [e1]
      show sx_X SC E (0, 0) GL M18 21 [(5, sx_I (((nwS M (dN M - k) k : Nat) : Int))), (0, sx_A (17)), (1, sx_I (((k : Nat) : Int))), (2, sx_I (((s : Nat) : Int))), (3, sx_J (c))] []
      refine sx_goto C 48 d_Se_give_21 (by decide) ?_
      refine sx_return C Rr rfl d_Se_give_48 ?_
      exact ⟨rfl, rfl, gvP_nw hI.2.2.2.1 hD6 (dN M - k) k (by omega) (by rw [e2, show nwS M (dN M - k) k = dN M by omega]; exact gvP_end hV hI.2.2.2.2.2.2.1 (by omega) hI.2.2.2.2.2.1)⟩
  | succ n hg =>
    intro l D tc M k s c hI hm
    refine sx_enter (by decide) rfl (Nat.le_of_ble_eq_true rfl) (Ts := g_tbl) (fun _ h => List.mem_cons_of_mem _ h) (fun E C Rr hnm hnL => ?_)
    have hV := hI.1
    have g0 := hV.1
    have hb := nwS_bd M (dN M - k) k
    have hkD := hI.2.2.2.2.1
    have hD6 : dN M ≤ 6 := by unfold dN; omega
    have hDe : ((dN M : Nat) : Int) = M 17 0 := by unfold dN; omega
    have hc0 := hI.2.2.2.2.2.2.1
    have hc1 := hI.2.2.2.2.2.2.2
    refine sx_aload_n C 0 d_Se_give_0 rfl rfl ?_
    refine sx_iload_n C 1 d_Se_give_1 rfl rfl ?_
    refine sx_callV (n := 71) (As := [sx_I (((k : Nat) : Int))]) (st := []) C (ct_Se_nextWithNeed _ _ _ M hV k hkD) rfl (by decide) rfl (cv_Se_138 E C _ (by rw [Rr.2.2]; exact ⟨by dsimp only; omega, by dsimp only; omega⟩)) (Nat.le_of_ble_eq_true rfl) d_Se_give_2 (by rw [Rr.2.2]; exact ⟨Nat.le_refl _, Nat.le_refl _⟩) (by decide) rfl rfl rfl (fun r2 G2 M2 hpo _ => ?_)
    obtain ⟨e1, e2, rfl⟩ := hpo
    rw [e1, e2]
    clear e1 e2
    show sx_X SC E (0, 0) GL M 5 [(0, sx_A (17)), (1, sx_I (((k : Nat) : Int))), (2, sx_I (((s : Nat) : Int))), (3, sx_J (c))] [sx_I (((nwS M (dN M - k) k : Nat) : Int))]
    refine sx_istore (lv' := [(5, sx_I (((nwS M (dN M - k) k : Nat) : Int))), (0, sx_A (17)), (1, sx_I (((k : Nat) : Int))), (2, sx_I (((s : Nat) : Int))), (3, sx_J (c))]) C d_Se_give_5 (by rw [hnL]; decide) rfl ?_
    refine sx_iload C 0 d_Se_give_7 rfl ?_
    refine sx_aload_n C 1 d_Se_give_9 rfl rfl ?_
    refine sx_geti C f_Se_9 (by decide) rfl d_Se_give_10 ?_
    refine sx_icmp_lt C 24 ⟨by omega, by omega⟩ ⟨by omega, by omega⟩ d_Se_give_13 (by decide) (fun c13 => ?_) (fun c13 => ?_)
    · have hlr := hV.2.2.2.2.2.2.2.1 (nwS M (dN M - k) k) (by omega)
      refine sx_aload_n C 1 d_Se_give_24 rfl rfl ?_
      refine sx_lload_n C 4 d_Se_give_25 rfl rfl ?_
      refine sx_aload_n C 1 d_Se_give_26 rfl rfl ?_
      refine sx_getr C f_Se_37 29 (by decide) rfl rfl d_Se_give_27 ?_
      refine sx_iload C 0 d_Se_give_30 rfl ?_
      refine sx_laload C (nwS M (dN M - k) k) (by decide) rfl rfl rfl (by omega) (by decide) d_Se_give_32 ?_
      refine sx_ladd C d_Se_give_33 ?_
      refine sx_callV (n := 71) (As := [sx_J (c + (M 29 (nwS M (dN M - k) k)))]) (st := []) C (ct_Se_isHopeless _ _ _ M hV _ (by constructor <;> omega)) rfl (by decide) rfl (cv_Se_146 E C _ (by rw [Rr.2.2]; exact ⟨by dsimp only; omega, by dsimp only; omega⟩)) (Nat.le_of_ble_eq_true rfl) d_Se_give_34 (by rw [Rr.2.2]; exact ⟨Nat.le_refl _, Nat.le_refl _⟩) (by decide) rfl rfl rfl (fun r34 G34 M34 hpo _ => ?_)
      obtain ⟨e1, e2, b34, rfl, hb34⟩ := hpo
      rw [e1, e2]
      show sx_X SC E (0, 0) GL M 37 [(5, sx_I (((nwS M (dN M - k) k : Nat) : Int))), (0, sx_A (17)), (1, sx_I (((k : Nat) : Int))), (2, sx_I (((s : Nat) : Int))), (3, sx_J (c))] [sx_I (b34)]
      refine sx_if_ne C 48 ⟨by omega, by omega⟩ d_Se_give_37 (by decide) (fun c37 => ?_) (fun c37 => ?_)
      · refine sx_return C Rr rfl d_Se_give_48 ?_
        exact ⟨rfl, rfl, gvP_nw hI.2.2.2.1 hD6 (dN M - k) k (by omega) (gvP_hope hV hI.2.1 (by omega) (by rcases hb34 with ⟨q1, q2⟩ | ⟨q1, q2⟩; exact q2; omega))⟩
      · have hz := nwS_at M (dN M - k) k (by omega)
        have hI2 : gvI M (nwS M (dN M - k) k) s c := ⟨hV, hI.2.1, hI.2.2.1, hI.2.2.2.1, by omega, hI.2.2.2.2.2.1, hc0, by omega⟩
        refine sx_aload_n C 1 d_Se_give_40 rfl rfl ?_
        refine sx_iload C 0 d_Se_give_41 rfl ?_
        refine sx_iload_n C 3 d_Se_give_43 rfl rfl ?_
        refine sx_lload_n C 4 d_Se_give_44 rfl rfl ?_
        refine sx_callV (n := 71) (As := [sx_I (((nwS M (dN M - k) k : Nat) : Int)), sx_I (((s : Nat) : Int)), sx_J (c)]) (st := []) C (ct_Se_giveEachPlace _ _ _ hg M _ s c hI2 (by omega) (by omega) hz (by omega)) rfl (by decide) rfl (cv_Se_150 E C _ (by rw [Rr.2.2]; exact ⟨by dsimp only; omega, by dsimp only; omega⟩)) (Nat.le_of_ble_eq_true rfl) d_Se_give_45 (by rw [Rr.2.2]; exact ⟨Nat.le_refl _, Nat.le_refl _⟩) (by decide) rfl rfl rfl (fun r45 G45 M45 hpo _ => ?_)
        obtain ⟨e1, rfl, h45⟩ := hpo
        rw [e1]
        show sx_X SC E (0, 0) GL M45 48 [(5, sx_I (((nwS M (dN M - k) k : Nat) : Int))), (0, sx_A (17)), (1, sx_I (((k : Nat) : Int))), (2, sx_I (((s : Nat) : Int))), (3, sx_J (c))] []
        refine sx_return C Rr rfl d_Se_give_48 ?_
        exact ⟨rfl, rfl, gvP_nw hI.2.2.2.1 hD6 (dN M - k) k (by omega) h45⟩
    · refine sx_aload_n C 1 d_Se_give_16 rfl rfl ?_
      refine sx_lload_n C 4 d_Se_give_17 rfl rfl ?_
      refine sx_callV (n := 71) (As := [sx_J (c)]) (st := []) C (ct_Se_keepIfBetter _ _ _ M hV c (by constructor <;> omega)) rfl (by decide) rfl (cv_Se_142 E C _ (by rw [Rr.2.2]; exact ⟨by dsimp only; omega, by dsimp only; omega⟩)) (Nat.le_of_ble_eq_true rfl) d_Se_give_18 (by rw [Rr.2.2]; exact ⟨Nat.le_refl _, Nat.le_refl _⟩) (by decide) rfl rfl rfl (fun r18 G18 M18 hpo _ => ?_)
      obtain ⟨e1, e2, rfl⟩ := hpo
      rw [e1]
      show sx_X SC E (0, 0) GL M18 21 [(5, sx_I (((nwS M (dN M - k) k : Nat) : Int))), (0, sx_A (17)), (1, sx_I (((k : Nat) : Int))), (2, sx_I (((s : Nat) : Int))), (3, sx_J (c))] []
      refine sx_goto C 48 d_Se_give_21 (by decide) ?_
      refine sx_return C Rr rfl d_Se_give_48 ?_
      exact ⟨rfl, rfl, gvP_nw hI.2.2.2.1 hD6 (dN M - k) k (by omega) (by rw [e2, show nwS M (dN M - k) k = dN M by omega]; exact gvP_end hV hI.2.2.2.2.2.2.1 (by omega) hI.2.2.2.2.2.1)⟩
