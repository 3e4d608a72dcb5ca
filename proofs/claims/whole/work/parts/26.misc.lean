/-- what holds of the plan held, of the set that can't be served, of the years held, of 'proved' -/
def hv (M : sx_M0) : Prop := (M 33 0 = 0 ∨ M 33 0 = 1) ∧ (∀ d, d < 6 → -1 ≤ M 34 d ∧ M 34 d ≤ 4) ∧ (-100000000 ≤ M 33 1 ∧ M 33 1 ≤ 100000000) ∧ (0 ≤ M 35 0 ∧ M 35 0 ≤ 6) ∧ (∀ d, d < 6 → 0 ≤ M 36 d ∧ M 36 d ≤ 5) ∧ (0 ≤ M 37 0 ∧ M 37 0 ≤ 6) ∧ (∀ d, d < 6 → 0 ≤ M 38 d ∧ M 38 d ≤ 31) ∧ (M 0 5 = 0 ∨ M 0 5 = 1)
theorem sx_upup (M : sx_M0) (k j : Nat) (x y : Int) : sx_up (sx_up M k j x) k j y = sx_up M k j y := by
  funext a b
  unfold sx_up
  by_cases h : a = k ∧ b = j
  · rw [if_pos h, if_pos h]
  · rw [if_neg h, if_neg h, if_neg h]
set_option maxRecDepth 100000 in
set_option maxHeartbeats 4000000 in
theorem ct_He_drop (l : Launch) (D : va_G) (tc : Nat → ClassId) (M : sx_M0) : sx_Met SC l D tc y_He_drop w_He_drop (rmk 0 0) [sx_A (33)] GL M (fun r G' M' => G' = GL ∧ M' = sx_up M 33 0 0 ∧ r = none) := by
  refine sx_enter (by decide) rfl (Nat.le_of_ble_eq_true rfl) (Ts := g_tbl) (fun _ h => List.mem_cons_of_mem _ h) (fun E C Rr hnm hnL => ?_)
  refine sx_aload_n C 0 d_He_drop_0 rfl rfl ?_
  refine sx_iconst C d_He_drop_1 ?_
  refine sx_putz C p_He_9 (by omega) (by decide) rfl d_He_drop_2 ?_
  refine sx_return C Rr rfl d_He_drop_5 ?_
  exact ⟨rfl, rfl, rfl⟩
set_option maxRecDepth 100000 in
set_option maxHeartbeats 4000000 in
theorem ct_Un_forget (l : Launch) (D : va_G) (tc : Nat → ClassId) (M : sx_M0) : sx_Met SC l D tc y_Un_forget w_Un_forget (rmk 0 0) [sx_A (35)] GL M (fun r G' M' => G' = GL ∧ M' = sx_up M 35 0 0 ∧ r = none) := by
  refine sx_enter (by decide) rfl (Nat.le_of_ble_eq_true rfl) (Ts := g_tbl) (fun _ h => List.mem_cons_of_mem _ h) (fun E C Rr hnm hnL => ?_)
  refine sx_aload_n C 0 d_Un_forget_0 rfl rfl ?_
  refine sx_iconst C d_Un_forget_1 ?_
  refine sx_puti C p_Un_9 (by decide) rfl d_Un_forget_2 ?_
  refine sx_return C Rr rfl d_Un_forget_5 ?_
  exact ⟨rfl, rfl, rfl⟩
set_option maxRecDepth 100000 in
set_option maxHeartbeats 4000000 in
theorem ct_He_keep (l : Launch) (D : va_G) (tc : Nat → ClassId) (M : sx_M0) (x : Int) : sx_Met SC l D tc y_He_keep w_He_keep (rmk 1 40) [sx_A (33), sx_A (32), sx_J (x)] GL M (fun r G' M' => G' = GL ∧ M' = sx_cpy (sx_up (sx_up M 33 0 1) 33 1 x) 32 34 0 0 6 ∧ r = none) := by
  refine sx_enter (by decide) rfl (Nat.le_of_ble_eq_true rfl) (Ts := g_tbl) (fun _ h => List.mem_cons_of_mem _ h) (fun E C Rr hnm hnL => ?_)
  refine sx_aload_n C 0 d_He_keep_0 rfl rfl ?_
  refine sx_iconst C d_He_keep_1 ?_
  refine sx_putz C p_He_9 (by omega) (by decide) rfl d_He_keep_2 ?_
  refine sx_aload_n C 0 d_He_keep_5 rfl rfl ?_
  refine sx_lload_n C 2 d_He_keep_6 rfl rfl ?_
  refine sx_putl C p_He_15 (by decide) rfl d_He_keep_7 ?_
  refine sx_aload_n C 1 d_He_keep_10 rfl rfl ?_
  refine sx_iconst C d_He_keep_11 ?_
  refine sx_aload_n C 0 d_He_keep_12 rfl rfl ?_
  refine sx_getr C f_He_19 34 (by decide) rfl rfl d_He_keep_13 ?_
  refine sx_iconst C d_He_keep_16 ?_
  refine sx_bipush C d_He_keep_17 (by decide) ?_
  refine sx_copyI (sp := 0) (dp := 0) (n := 6) C (by decide) rfl (by decide) rfl rfl rfl rfl rfl (by decide) (by decide) (by decide) (by decide) (tb_ 405 (by decide +kernel) rfl) (tb_ 345 (by decide +kernel) rfl) (tb_ 344 (by decide +kernel) rfl) (tb_ 10 (by decide +kernel) rfl) (by rw [Rr.2.2]; decide) (by rw [Rr.2.2]; decide) d_He_keep_19 ?_
  refine sx_return C Rr rfl d_He_keep_22 ?_
  exact ⟨rfl, rfl, rfl⟩
def pfS (M : sx_M0) (x : Int) : Int := if M 33 0 = 1 ∧ 0 ≤ x ∧ x < 6 then M 34 x.toNat else -1
set_option maxRecDepth 100000 in
set_option maxHeartbeats 4000000 in
theorem ct_He_placeFor (l : Launch) (D : va_G) (tc : Nat → ClassId) (M : sx_M0) (hH : hv M) (x : Int) (hx : sx_r32 x) : sx_Met SC l D tc y_He_placeFor w_He_placeFor (rmk 0 0) [sx_A (33), sx_I (x)] GL M (fun r G' M' => G' = GL ∧ M' = M ∧ r = some (sx_I (pfS M x))) := by
  refine sx_enter (by decide) rfl (Nat.le_of_ble_eq_true rfl) (Ts := g_tbl) (fun _ h => List.mem_cons_of_mem _ h) (fun E C Rr hnm hnL => ?_)
  have h0 := hH.1
  refine sx_aload_n C 0 d_He_placeFor_0 rfl rfl ?_
  refine sx_getz C f_He_9 (by decide) rfl d_He_placeFor_1 ?_
  refine sx_if_eq C 26 ⟨by omega, by omega⟩ d_He_placeFor_4 (by decide) (fun c4 => ?_) (fun c4 => ?_)
  · refine sx_iconst C d_He_placeFor_26 ?_
    refine sx_ireturn C Rr rfl d_He_placeFor_27 ?_
    exact ⟨rfl, rfl, by unfold pfS; rw [if_neg (by omega)]⟩
  · refine sx_iload_n C 1 d_He_placeFor_7 rfl rfl ?_
    refine sx_if_lt C 26 ⟨by omega, by omega⟩ d_He_placeFor_8 (by decide) (fun c8 => ?_) (fun c8 => ?_)
    · refine sx_iconst C d_He_placeFor_26 ?_
      refine sx_ireturn C Rr rfl d_He_placeFor_27 ?_
      exact ⟨rfl, rfl, by unfold pfS; rw [if_neg (by omega)]⟩
    · refine sx_iload_n C 1 d_He_placeFor_11 rfl rfl ?_
      refine sx_bipush C d_He_placeFor_12 (by decide) ?_
      refine sx_icmp_ge C 26 ⟨by omega, by omega⟩ ⟨by omega, by omega⟩ d_He_placeFor_14 (by decide) (fun c14 => ?_) (fun c14 => ?_)
      · refine sx_iconst C d_He_placeFor_26 ?_
        refine sx_ireturn C Rr rfl d_He_placeFor_27 ?_
        exact ⟨rfl, rfl, by unfold pfS; rw [if_neg (by omega)]⟩
      · refine sx_aload_n C 0 d_He_placeFor_17 rfl rfl ?_
        refine sx_getr C f_He_19 34 (by decide) rfl rfl d_He_placeFor_18 ?_
        refine sx_iload_n C 1 d_He_placeFor_21 rfl rfl ?_
        refine sx_iaload C x.toNat (by decide) rfl rfl (by omega) (by omega) (by decide) d_He_placeFor_22 ?_
        refine sx_goto C 27 d_He_placeFor_23 (by decide) ?_
        refine sx_ireturn C Rr rfl d_He_placeFor_27 ?_
        exact ⟨rfl, rfl, by unfold pfS; rw [if_pos (by omega)]⟩
theorem pfS_bd {M : sx_M0} (hH : hv M) (x : Int) : -1 ≤ pfS M x ∧ pfS M x ≤ 4 := by
  unfold pfS
  split
  next h => exact hH.2.1 x.toNat (by omega)
  next => omega
set_option maxRecDepth 100000 in
set_option maxHeartbeats 4000000 in
theorem lp_He_gives  (M : sx_M0) (hH : hv M) (x : Int) (hx : sx_r32 x) {E : sx_E} (C : sx_C SC g_tbl "SiteChoice$HeldPlan" c_He_gives E) (Rr : sx_Ret SC (some .boolean) (rmk 1 40) (fun r G' M' => G' = GL ∧ M' = M ∧ bz (∃ d : Nat, d < 6 ∧ pfS M (d : Int) = x) r) E) (hnL : sx_nL E = 3) : ∀ (nF : Nat) (d : Nat), 6 - d < nF → (∀ e : Nat, e < d → ¬ pfS M (e : Int) = x) → d ≤ 6 → sx_X SC E (0, 0) GL M 2 [(2, sx_I (((d : Nat) : Int))), (0, sx_A (33)), (1, sx_I (x))] [] := by
  intro nF
  induction nF with
  | zero => intro d h; omega
  | succ nF ih =>
    intro d hn h1 h2
    refine sx_iload_n C 0 d_He_gives_2 rfl rfl ?_
    refine sx_bipush C d_He_gives_3 (by decide) ?_
    refine sx_icmp_ge C 25 ⟨by omega, by omega⟩ ⟨by omega, by omega⟩ d_He_gives_5 (by decide) (fun c5 => ?_) (fun c5 => ?_)
    · refine sx_iconst C d_He_gives_25 ?_
      refine sx_zreturn C Rr (by omega) rfl d_He_gives_26 ?_
      exact ⟨rfl, rfl, 0, rfl, Or.inr ⟨rfl, by rintro ⟨e, h3, h4⟩; exact h1 e (by omega) h4⟩⟩
    · refine sx_aload_n C 1 d_He_gives_8 rfl rfl ?_
      refine sx_iload_n C 0 d_He_gives_9 rfl rfl ?_
      refine sx_callV (n := 71) (As := [sx_I (((d : Nat) : Int))]) (st := []) C (ct_He_placeFor _ _ _ M hH ((d : Nat) : Int) (by constructor <;> omega)) rfl (by decide) rfl (cv_He_29 E C _ (by rw [Rr.2.2]; decide)) (Nat.le_of_ble_eq_true rfl) d_He_gives_10 (by rw [Rr.2.2]; decide) (by decide) rfl rfl rfl (fun r10 G10 M10 hpo _ => ?_)
      obtain ⟨e1, e2, rfl⟩ := hpo
      rw [e1, e2]
      show sx_X SC E (0, 0) GL M 13 [(2, sx_I (((d : Nat) : Int))), (0, sx_A (33)), (1, sx_I (x))] [sx_I (pfS M ((d : Nat) : Int))]
      have hp := pfS_bd hH ((d : Nat) : Int)
      refine sx_iload_n C 2 d_He_gives_13 rfl rfl ?_
      refine sx_icmp_ne C 19 ⟨by omega, by omega⟩ ⟨by omega, by omega⟩ d_He_gives_14 (by decide) (fun c14 => ?_) (fun c14 => ?_)
      · refine sx_iinc (lv' := [(2, sx_I (((d + 1 : Nat) : Int))), (0, sx_A (33)), (1, sx_I (x))]) C 0 d_He_gives_19 rfl (by rw [hnL]; decide) rfl ?_
        refine sx_goto C 2 d_He_gives_22 (by decide) ?_
        refine sx_sub [0, 1, 2] rfl ?_
        exact ih (d + 1) (by omega) (fun e he => by rcases Nat.lt_or_ge e d with q | q; exact h1 e q; rw [show e = d by omega]; exact c14) (by omega)
      · refine sx_iconst C d_He_gives_17 ?_
        refine sx_zreturn C Rr (by omega) rfl d_He_gives_18 ?_
        exact ⟨rfl, rfl, 1, rfl, Or.inl ⟨rfl, d, by omega, by omega⟩⟩
set_option maxRecDepth 100000 in
set_option maxHeartbeats 4000000 in
theorem ct_He_gives (l : Launch) (D : va_G) (tc : Nat → ClassId) (M : sx_M0) (hH : hv M) (x : Int) (hx : sx_r32 x) : sx_Met SC l D tc y_He_gives w_He_gives (rmk 1 40) [sx_A (33), sx_I (x)] GL M (fun r G' M' => G' = GL ∧ M' = M ∧ bz (∃ d : Nat, d < 6 ∧ pfS M (d : Int) = x) r) := by
  refine sx_enter (by decide) rfl (Nat.le_of_ble_eq_true rfl) (Ts := g_tbl) (fun _ h => List.mem_cons_of_mem _ h) (fun E C Rr hnm hnL => ?_)
  refine sx_iconst C d_He_gives_0 ?_
  refine sx_istore_n (lv' := [(2, sx_I (0)), (0, sx_A (33)), (1, sx_I (x))]) C d_He_gives_1 rfl (by rw [hnL]; decide) rfl ?_
  refine sx_sub [0, 1, 2] rfl ?_
  exact lp_He_gives M hH x hx C Rr hnL _ 0 (Nat.lt_succ_self _) (fun e he => by omega) (Nat.zero_le _)
def rt1 (M : sx_M0) (d : Nat) : Int := if 0 ≤ M 34 d ∧ M 34 d < M 1 1 then M 2 d * M (4 + 1 + d) (M 34 d).toNat else 0
def rtS (M : sx_M0) : Nat → Int
  | 0 => 0
  | d + 1 => rtS M d + rt1 M d
theorem mul_bd2 {a b : Int} (h1 : 0 ≤ a) (h2 : a ≤ 150) (h3 : -1 ≤ b) (h4 : b ≤ 10000) : -150 ≤ a * b ∧ a * b ≤ 1500000 := by
  by_cases h : 0 ≤ b
  · have := mul_bd h1 h2 h h4
    omega
  · have e : b = -1 := by omega
    rw [e]
    omega
theorem rt1_bd {M : sx_M0} (hT : tw M) {d : Nat} (hd : d < 6) : -150 ≤ rt1 M d ∧ rt1 M d ≤ 1500000 := by
  unfold rt1
  have g1 := hT.2.1
  have h1 := hT.2.2.2.1 d hd
  split
  next h =>
    have h2 := hT.2.2.2.2.2.1 d (M 34 d).toNat hd (by omega)
    exact mul_bd2 h1.1 (by omega) h2.1 h2.2
  next => omega
set_option maxRecDepth 100000 in
set_option maxHeartbeats 4000000 in
theorem lp_He_reckonTotal  (M : sx_M0) (hT : tw M) (hH : hv M) {E : sx_E} (C : sx_C SC g_tbl "SiteChoice$HeldPlan" c_He_reckonTotal E) (Rr : sx_Ret SC none (rmk 1 40) (fun r G' M' => G' = GL ∧ M' = sx_up M 33 1 (rtS M (M 1 0).toNat) ∧ r = none) E) (hnL : sx_nL E = 4) : ∀ (nF : Nat) (d : Nat) (x : Int), (M 1 0).toNat - d < nF → x = rtS M d → d ≤ (M 1 0).toNat → sx_X SC E (0, 0) GL (sx_up M 33 1 x) 7 [(2, sx_I (((d : Nat) : Int))), (0, sx_A (33)), (1, sx_A (1))] [] := by
  intro nF
  induction nF with
  | zero => intro d x h; omega
  | succ nF ih =>
    intro d x hn h1 h2
    have g0 := hT.1
    have g1 := hT.2.1
    refine sx_iload_n C 0 d_He_reckonTotal_7 rfl rfl ?_
    refine sx_aload_n C 2 d_He_reckonTotal_8 rfl rfl ?_
    refine sx_geti C f_He_33 (by decide) rfl d_He_reckonTotal_9 ?_
    rw [sx_up_ne (by decide)]
    refine sx_icmp_ge C 60 ⟨by omega, by omega⟩ ⟨by omega, by omega⟩ d_He_reckonTotal_12 (by decide) (fun c12 => ?_) (fun c12 => ?_)
    · refine sx_return C Rr rfl d_He_reckonTotal_60 ?_
      exact ⟨rfl, by rw [h1, show d = (M 1 0).toNat by omega], rfl⟩
    · refine sx_aload_n C 1 d_He_reckonTotal_15 rfl rfl ?_
      refine sx_getr C f_He_19 34 (by decide) rfl rfl d_He_reckonTotal_16 ?_
      refine sx_iload_n C 0 d_He_reckonTotal_19 rfl rfl ?_
      refine sx_iaload C d (by decide) rfl rfl rfl (by omega) (by decide) d_He_reckonTotal_20 ?_
      have h34 := hH.2.1 d (by omega)
      rw [sx_up_ne (by decide)]
      refine sx_istore_n (lv' := [(3, sx_I (M 34 d)), (2, sx_I (((d : Nat) : Int))), (0, sx_A (33)), (1, sx_A (1))]) C d_He_reckonTotal_21 rfl (by rw [hnL]; decide) rfl ?_
      refine sx_aload_n C 3 d_He_reckonTotal_22 rfl rfl ?_
      refine sx_iload_n C 0 d_He_reckonTotal_23 rfl rfl ?_
      refine sx_callV (n := 71) (As := [sx_I (M 34 d)]) (st := []) C (ct_To_hasPlace _ _ _ _ (tw_fr (fun a ha => sx_up_ne (by omega)) hT) (M 34 d) (by constructor <;> omega)) rfl (by decide) rfl (cv_He_39 E C _ (by rw [Rr.2.2]; decide)) (Nat.le_of_ble_eq_true rfl) d_He_reckonTotal_24 (by rw [Rr.2.2]; decide) (by decide) rfl rfl rfl (fun r24 G24 M24 hpo _ => ?_)
      obtain ⟨e1, e2, b24, rfl, hb24⟩ := hpo
      rw [e1, e2]
      rw [sx_up_ne (by decide)] at hb24
      show sx_X SC E (0, 0) GL (sx_up M 33 1 x) 27 [(3, sx_I (M 34 d)), (2, sx_I (((d : Nat) : Int))), (0, sx_A (33)), (1, sx_A (1))] [sx_I (b24)]
      refine sx_if_eq C 54 ⟨by omega, by omega⟩ d_He_reckonTotal_27 (by decide) (fun c27 => ?_) (fun c27 => ?_)
      · refine sx_iinc (lv' := [(2, sx_I (((d + 1 : Nat) : Int))), (3, sx_I (M 34 d)), (0, sx_A (33)), (1, sx_A (1))]) C 1 d_He_reckonTotal_54 rfl (by rw [hnL]; decide) rfl ?_
        refine sx_goto C 7 d_He_reckonTotal_57 (by decide) ?_
        refine sx_sub [0, 2, 3] rfl ?_
        exact ih (d + 1) _ (by omega) (by rw [h1]; show _ = rtS M d + rt1 M d; unfold rt1; rw [if_neg (by rcases hb24 with ⟨q1, q2⟩ | ⟨q1, q2⟩; omega; exact q2)]; omega) (by omega)
      · have hq : 0 ≤ M 34 d ∧ M 34 d < M 1 1 := by rcases hb24 with ⟨q1, q2⟩ | ⟨q1, q2⟩; exact q2; omega
        refine sx_aload_n C 2 d_He_reckonTotal_30 rfl rfl ?_
        refine sx_dup C d_He_reckonTotal_31 rfl ?_
        refine sx_getl C f_He_15 (by decide) rfl d_He_reckonTotal_32 ?_
        rw [sx_up_at]
        refine sx_aload_n C 3 d_He_reckonTotal_35 rfl rfl ?_
        refine sx_getr C f_He_43 2 (by decide) rfl rfl d_He_reckonTotal_36 ?_
        refine sx_iload_n C 1 d_He_reckonTotal_39 rfl rfl ?_
        refine sx_laload C d (by decide) rfl rfl rfl (by omega) (by decide) d_He_reckonTotal_40 ?_
        rw [sx_up_ne (by decide)]
        refine sx_aload_n C 3 d_He_reckonTotal_41 rfl rfl ?_
        refine sx_getr C f_He_47 4 (by decide) rfl rfl d_He_reckonTotal_42 ?_
        refine sx_iload_n C 1 d_He_reckonTotal_45 rfl rfl ?_
        refine sx_aaload C d (4 + 1 + d) (by decide) rfl rfl rfl (by omega) (by decide) (if_pos (by omega)) d_He_reckonTotal_46 ?_
        refine sx_iload_n C 0 d_He_reckonTotal_47 rfl rfl ?_
        refine sx_laload C (M 34 d).toNat (by show (4 + 1 + d) < 71; omega) (gl_4 _ (by omega)) rfl (by omega) (by omega) (by decide) d_He_reckonTotal_48 ?_
        rw [sx_up_ne (by omega)]
        refine sx_lmul C d_He_reckonTotal_49 ?_
        refine sx_ladd C d_He_reckonTotal_50 ?_
        refine sx_putl C p_He_15 (by decide) rfl d_He_reckonTotal_51 ?_
        refine sx_iinc (lv' := [(2, sx_I (((d + 1 : Nat) : Int))), (3, sx_I (M 34 d)), (0, sx_A (33)), (1, sx_A (1))]) C 1 d_He_reckonTotal_54 rfl (by rw [hnL]; decide) rfl ?_
        refine sx_goto C 7 d_He_reckonTotal_57 (by decide) ?_
        refine sx_sub [0, 2, 3] rfl ?_
        rw [sx_upup]
        exact ih (d + 1) _ (by omega) (by rw [h1]; show _ = rtS M d + rt1 M d; unfold rt1; rw [if_pos (by rcases hb24 with ⟨q1, q2⟩ | ⟨q1, q2⟩; exact q2; omega)]) (by omega)
set_option maxRecDepth 100000 in
set_option maxHeartbeats 4000000 in
theorem ct_He_reckonTotal (l : Launch) (D : va_G) (tc : Nat → ClassId) (M : sx_M0) (hT : tw M) (hH : hv M) : sx_Met SC l D tc y_He_reckonTotal w_He_reckonTotal (rmk 1 40) [sx_A (33), sx_A (1)] GL M (fun r G' M' => G' = GL ∧ M' = sx_up M 33 1 (rtS M (M 1 0).toNat) ∧ r = none) := by
  refine sx_enter (by decide) rfl (Nat.le_of_ble_eq_true rfl) (Ts := g_tbl) (fun _ h => List.mem_cons_of_mem _ h) (fun E C Rr hnm hnL => ?_)
  refine sx_aload_n C 0 d_He_reckonTotal_0 rfl rfl ?_
  refine sx_lconst C 0 rfl d_He_reckonTotal_1 ?_
  refine sx_putl C p_He_15 (by decide) rfl d_He_reckonTotal_2 ?_
  refine sx_iconst C d_He_reckonTotal_5 ?_
  refine sx_istore_n (lv' := [(2, sx_I (0)), (0, sx_A (33)), (1, sx_A (1))]) C d_He_reckonTotal_6 rfl (by rw [hnL]; decide) rfl ?_
  refine sx_sub [0, 1, 2] rfl ?_
  exact lp_He_reckonTotal M hT hH C Rr hnL _ 0 0 (Nat.lt_succ_self _) rfl (Nat.zero_le _)
def mbS (M : sx_M0) (k : Int) : Int := if 0 ≤ k ∧ k < M 35 0 then M 36 k.toNat else -1
set_option maxRecDepth 100000 in
set_option maxHeartbeats 4000000 in
theorem ct_Un_member (l : Launch) (D : va_G) (tc : Nat → ClassId) (M : sx_M0) (hH : hv M) (k : Int) (hx : sx_r32 k) : sx_Met SC l D tc y_Un_member w_Un_member (rmk 0 0) [sx_A (35), sx_I (k)] GL M (fun r G' M' => G' = GL ∧ M' = M ∧ r = some (sx_I (mbS M k))) := by
  refine sx_enter (by decide) rfl (Nat.le_of_ble_eq_true rfl) (Ts := g_tbl) (fun _ h => List.mem_cons_of_mem _ h) (fun E C Rr hnm hnL => ?_)
  have h0 := hH.2.2.2.1
  refine sx_iload_n C 1 d_Un_member_0 rfl rfl ?_
  refine sx_if_lt C 21 ⟨by omega, by omega⟩ d_Un_member_1 (by decide) (fun c1 => ?_) (fun c1 => ?_)
  · refine sx_iconst C d_Un_member_21 ?_
    refine sx_ireturn C Rr rfl d_Un_member_22 ?_
    exact ⟨rfl, rfl, by unfold mbS; rw [if_neg (by omega)]⟩
  · refine sx_iload_n C 1 d_Un_member_4 rfl rfl ?_
    refine sx_aload_n C 0 d_Un_member_5 rfl rfl ?_
    refine sx_geti C f_Un_9 (by decide) rfl d_Un_member_6 ?_
    refine sx_icmp_ge C 21 ⟨by omega, by omega⟩ ⟨by omega, by omega⟩ d_Un_member_9 (by decide) (fun c9 => ?_) (fun c9 => ?_)
    · refine sx_iconst C d_Un_member_21 ?_
      refine sx_ireturn C Rr rfl d_Un_member_22 ?_
      exact ⟨rfl, rfl, by unfold mbS; rw [if_neg (by omega)]⟩
    · refine sx_aload_n C 0 d_Un_member_12 rfl rfl ?_
      refine sx_getr C f_Un_15 36 (by decide) rfl rfl d_Un_member_13 ?_
      refine sx_iload_n C 1 d_Un_member_16 rfl rfl ?_
      refine sx_iaload C k.toNat (by decide) rfl rfl (by omega) (by omega) (by decide) d_Un_member_17 ?_
      refine sx_goto C 22 d_Un_member_18 (by decide) ?_
      refine sx_ireturn C Rr rfl d_Un_member_22 ?_
      exact ⟨rfl, rfl, by unfold mbS; rw [if_pos (by omega)]⟩
theorem bit_v : ∀ u, u < 32 → ∀ p, p < 5 → sx_and (sx_shr ((u : Nat) : Int) ((p : Nat) : Int)) 1 = if u.testBit p = true then 1 else 0 := by decide +kernel
def opS (M : sx_M0) (p y : Int) : Int := if 0 ≤ y ∧ y < M 37 0 ∧ 0 ≤ p ∧ p < 5 then (if (M 38 y.toNat).toNat.testBit p.toNat = true then 1 else 0) else -1
set_option maxRecDepth 100000 in
set_option maxHeartbeats 4000000 in
theorem ct_Ca_isOpenIn (l : Launch) (D : va_G) (tc : Nat → ClassId) (M : sx_M0) (hH : hv M) (p y : Int) (hx : sx_r32 p) (hy : sx_r32 y) : sx_Met SC l D tc y_Ca_isOpenIn w_Ca_isOpenIn (rmk 0 0) [sx_A (37), sx_I (p), sx_I (y)] GL M (fun r G' M' => G' = GL ∧ M' = M ∧ r = some (sx_I (opS M p y))) := by
  refine sx_enter (by decide) rfl (Nat.le_of_ble_eq_true rfl) (Ts := g_tbl) (fun _ h => List.mem_cons_of_mem _ h) (fun E C Rr hnm hnL => ?_)
  have h0 := hH.2.2.2.2.2.1
  refine sx_iload_n C 2 d_Ca_isOpenIn_0 rfl rfl ?_
  refine sx_if_lt C 21 ⟨by omega, by omega⟩ d_Ca_isOpenIn_1 (by decide) (fun c1 => ?_) (fun c1 => ?_)
  · refine sx_iconst C d_Ca_isOpenIn_21 ?_
    refine sx_ireturn C Rr rfl d_Ca_isOpenIn_22 ?_
    exact ⟨rfl, rfl, by unfold opS; rw [if_neg (by omega)]⟩
  · refine sx_iload_n C 2 d_Ca_isOpenIn_4 rfl rfl ?_
    refine sx_aload_n C 0 d_Ca_isOpenIn_5 rfl rfl ?_
    refine sx_geti C f_Ca_9 (by decide) rfl d_Ca_isOpenIn_6 ?_
    refine sx_icmp_ge C 21 ⟨by omega, by omega⟩ ⟨by omega, by omega⟩ d_Ca_isOpenIn_9 (by decide) (fun c9 => ?_) (fun c9 => ?_)
    · refine sx_iconst C d_Ca_isOpenIn_21 ?_
      refine sx_ireturn C Rr rfl d_Ca_isOpenIn_22 ?_
      exact ⟨rfl, rfl, by unfold opS; rw [if_neg (by omega)]⟩
    · refine sx_iload_n C 1 d_Ca_isOpenIn_12 rfl rfl ?_
      refine sx_if_lt C 21 ⟨by omega, by omega⟩ d_Ca_isOpenIn_13 (by decide) (fun c13 => ?_) (fun c13 => ?_)
      · refine sx_iconst C d_Ca_isOpenIn_21 ?_
        refine sx_ireturn C Rr rfl d_Ca_isOpenIn_22 ?_
        exact ⟨rfl, rfl, by unfold opS; rw [if_neg (by omega)]⟩
      · refine sx_iload_n C 1 d_Ca_isOpenIn_16 rfl rfl ?_
        refine sx_iconst C d_Ca_isOpenIn_17 ?_
        refine sx_icmp_lt C 23 ⟨by omega, by omega⟩ ⟨by omega, by omega⟩ d_Ca_isOpenIn_18 (by decide) (fun c18 => ?_) (fun c18 => ?_)
        · refine sx_aload_n C 0 d_Ca_isOpenIn_23 rfl rfl ?_
          refine sx_getr C f_Ca_15 38 (by decide) rfl rfl d_Ca_isOpenIn_24 ?_
          refine sx_iload_n C 2 d_Ca_isOpenIn_27 rfl rfl ?_
          refine sx_iaload C y.toNat (by decide) rfl rfl (by omega) (by omega) (by decide) d_Ca_isOpenIn_28 ?_
          refine sx_iload_n C 1 d_Ca_isOpenIn_29 rfl rfl ?_
          refine sx_ishr C d_Ca_isOpenIn_30 ?_
          refine sx_iconst C d_Ca_isOpenIn_31 ?_
          refine sx_iand C d_Ca_isOpenIn_32 ?_
          refine sx_ireturn C Rr rfl d_Ca_isOpenIn_33 ?_
          refine ⟨rfl, rfl, ?_⟩
          have e1 := hH.2.2.2.2.2.2.1 y.toNat (by omega)
          have e2 := bit_v (M 38 y.toNat).toNat (by omega) p.toNat (by omega)
          rw [show (((M 38 y.toNat).toNat : Nat) : Int) = M 38 y.toNat by omega, show ((p.toNat : Nat) : Int) = p by omega] at e2
          unfold opS
          rw [e2, if_pos (by omega : 0 ≤ y ∧ y < M 37 0 ∧ 0 ≤ p ∧ p < 5)]
        · refine sx_iconst C d_Ca_isOpenIn_21 ?_
          refine sx_ireturn C Rr rfl d_Ca_isOpenIn_22 ?_
          exact ⟨rfl, rfl, by unfold opS; rw [if_neg (by omega)]⟩
def adM (M : sx_M0) (x : Int) : sx_M0 := sx_up (flS (sx_up (sx_up M 2 (M 1 0).toNat x) 3 (M 1 0).toNat 10000) (4 + 1 + (M 1 0).toNat) 5 (-1)) 1 0 (M 1 0 + 1)
def apM (M : sx_M0) (x y c r : Int) : sx_M0 := sx_up (sx_up (sx_up (sx_up (sx_up M 11 (M 1 1).toNat x) 12 (M 1 1).toNat y) 13 (M 1 1).toNat c) 14 (M 1 1).toNat r) 1 1 (M 1 1 + 1)
set_option maxRecDepth 100000 in
set_option maxHeartbeats 4000000 in
theorem ct_To_addDistrict (l : Launch) (D : va_G) (tc : Nat → ClassId) (M : sx_M0) (hT : tw M) (h6 : M 1 0 < 6) (x : Int) : sx_Met SC l D tc y_To_addDistrict w_To_addDistrict (rmk 1 40) [sx_A (1), sx_J (x)] GL M (fun r G' M' => G' = GL ∧ M' = adM M x ∧ r = some (sx_I (M 1 0))) := by
  refine sx_enter (by decide) rfl (Nat.le_of_ble_eq_true rfl) (Ts := g_tbl) (fun _ h => List.mem_cons_of_mem _ h) (fun E C Rr hnm hnL => ?_)
  have g0 := hT.1
  refine sx_aload_n C 0 d_To_addDistrict_0 rfl rfl ?_
  refine sx_geti C f_To_9 (by decide) rfl d_To_addDistrict_1 ?_
  refine sx_istore_n (lv' := [(3, sx_I (M 1 0)), (0, sx_A (1)), (1, sx_J (x))]) C d_To_addDistrict_4 rfl (by rw [hnL]; decide) rfl ?_
  refine sx_iload_n C 0 d_To_addDistrict_5 rfl rfl ?_
  refine sx_bipush C d_To_addDistrict_6 (by decide) ?_
  refine sx_icmp_lt C 13 ⟨by omega, by omega⟩ ⟨by omega, by omega⟩ d_To_addDistrict_8 (by decide) (fun c8 => ?_) (fun c8 => ?_)
  · refine sx_aload_n C 1 d_To_addDistrict_13 rfl rfl ?_
    refine sx_getr C f_To_24 2 (by decide) rfl rfl d_To_addDistrict_14 ?_
    refine sx_iload_n C 0 d_To_addDistrict_17 rfl rfl ?_
    refine sx_lload_n C 2 d_To_addDistrict_18 rfl rfl ?_
    refine sx_lastore C (M 1 0).toNat (by decide) rfl rfl (by omega) (by omega) (by decide) d_To_addDistrict_19 ?_
    refine sx_aload_n C 1 d_To_addDistrict_20 rfl rfl ?_
    refine sx_getr C f_To_28 3 (by decide) rfl rfl d_To_addDistrict_21 ?_
    refine sx_iload_n C 0 d_To_addDistrict_24 rfl rfl ?_
    refine sx_ldc2 (v := (10000)) C (10000) (tb_ 225 (by decide +kernel) rfl) (by decide) d_To_addDistrict_25 ?_
    refine sx_lastore C (M 1 0).toNat (by decide) rfl rfl (by omega) (by omega) (by decide) d_To_addDistrict_28 ?_
    refine sx_aload_n C 1 d_To_addDistrict_29 rfl rfl ?_
    refine sx_getr C f_To_33 4 (by decide) rfl rfl d_To_addDistrict_30 ?_
    refine sx_iload_n C 0 d_To_addDistrict_33 rfl rfl ?_
    refine sx_aaload C (M 1 0).toNat (4 + 1 + (M 1 0).toNat) (by decide) rfl rfl (by omega) (by omega) (by decide) (if_pos (by omega)) d_To_addDistrict_34 ?_
    refine sx_ldc2 (v := (-1)) C (-1) (tb_ 226 (by decide +kernel) rfl) (by decide) d_To_addDistrict_35 ?_
    refine sx_callS (n := 71) (As := [sx_A ((4 + 1 + (M 1 0).toNat)), sx_J ((-1))]) (st := []) C (ct_Ar_fill_longs _ _ _ _ (4 + 1 + (M 1 0).toNat) 5 (-1) (by show 4 + 1 + (M 1 0).toNat < 71; omega) (gl_4 _ (by omega)) (by decide)) (cv_To_59 E C _ (by rw [Rr.2.2]; decide)) (Nat.le_of_ble_eq_true rfl) d_To_addDistrict_38 (by rw [Rr.2.2]; decide) (by decide) rfl rfl rfl (fun r38 G38 M38 hpo _ => ?_)
    obtain ⟨e1, e2, rfl⟩ := hpo
    rw [e1, e2]
    show sx_X SC E (0, 0) GL (flS (sx_up (sx_up M 2 (M 1 0).toNat x) 3 (M 1 0).toNat 10000) (4 + 1 + (M 1 0).toNat) 5 (-1)) 41 [(3, sx_I (M 1 0)), (0, sx_A (1)), (1, sx_J (x))] []
    refine sx_aload_n C 1 d_To_addDistrict_41 rfl rfl ?_
    refine sx_iload_n C 0 d_To_addDistrict_42 rfl rfl ?_
    refine sx_iconst C d_To_addDistrict_43 ?_
    refine sx_iadd C d_To_addDistrict_44 ?_
    refine sx_puti C p_To_9 (by decide) rfl d_To_addDistrict_45 ?_
    refine sx_iload_n C 0 d_To_addDistrict_48 rfl rfl ?_
    refine sx_ireturn C Rr rfl d_To_addDistrict_49 ?_
    exact ⟨rfl, rfl, rfl⟩
  · exfalso; omega
set_option maxRecDepth 100000 in
set_option maxHeartbeats 4000000 in
theorem ct_To_addPlace (l : Launch) (D : va_G) (tc : Nat → ClassId) (M : sx_M0) (hT : tw M) (h5 : M 1 1 < 5) (x y c q : Int) : sx_Met SC l D tc y_To_addPlace w_To_addPlace (rmk 0 0) [sx_A (1), sx_J (x), sx_J (y), sx_J (c), sx_J (q)] GL M (fun r G' M' => G' = GL ∧ M' = apM M x y c q ∧ r = some (sx_I (M 1 1))) := by
  refine sx_enter (by decide) rfl (Nat.le_of_ble_eq_true rfl) (Ts := g_tbl) (fun _ h => List.mem_cons_of_mem _ h) (fun E C Rr hnm hnL => ?_)
  have g1 := hT.2.1
  refine sx_aload_n C 0 d_To_addPlace_0 rfl rfl ?_
  refine sx_geti C f_To_15 (by decide) rfl d_To_addPlace_1 ?_
  refine sx_istore (lv' := [(9, sx_I (M 1 1)), (0, sx_A (1)), (1, sx_J (x)), (3, sx_J (y)), (5, sx_J (c)), (7, sx_J (q))]) C d_To_addPlace_4 (by rw [hnL]; decide) rfl ?_
  refine sx_iload C 0 d_To_addPlace_6 rfl ?_
  refine sx_iconst C d_To_addPlace_8 ?_
  refine sx_icmp_lt C 14 ⟨by omega, by omega⟩ ⟨by omega, by omega⟩ d_To_addPlace_9 (by decide) (fun c9 => ?_) (fun c9 => ?_)
  · refine sx_aload_n C 1 d_To_addPlace_14 rfl rfl ?_
    refine sx_getr C f_To_36 11 (by decide) rfl rfl d_To_addPlace_15 ?_
    refine sx_iload C 0 d_To_addPlace_18 rfl ?_
    refine sx_lload_n C 2 d_To_addPlace_20 rfl rfl ?_
    refine sx_lastore C (M 1 1).toNat (by decide) rfl rfl (by omega) (by omega) (by decide) d_To_addPlace_21 ?_
    refine sx_aload_n C 1 d_To_addPlace_22 rfl rfl ?_
    refine sx_getr C f_To_39 12 (by decide) rfl rfl d_To_addPlace_23 ?_
    refine sx_iload C 0 d_To_addPlace_26 rfl ?_
    refine sx_lload_n C 3 d_To_addPlace_28 rfl rfl ?_
    refine sx_lastore C (M 1 1).toNat (by decide) rfl rfl (by omega) (by omega) (by decide) d_To_addPlace_29 ?_
    refine sx_aload_n C 1 d_To_addPlace_30 rfl rfl ?_
    refine sx_getr C f_To_42 13 (by decide) rfl rfl d_To_addPlace_31 ?_
    refine sx_iload C 0 d_To_addPlace_34 rfl ?_
    refine sx_lload C 4 d_To_addPlace_36 rfl ?_
    refine sx_lastore C (M 1 1).toNat (by decide) rfl rfl (by omega) (by omega) (by decide) d_To_addPlace_38 ?_
    refine sx_aload_n C 1 d_To_addPlace_39 rfl rfl ?_
    refine sx_getr C f_To_45 14 (by decide) rfl rfl d_To_addPlace_40 ?_
    refine sx_iload C 0 d_To_addPlace_43 rfl ?_
    refine sx_lload C 5 d_To_addPlace_45 rfl ?_
    refine sx_lastore C (M 1 1).toNat (by decide) rfl rfl (by omega) (by omega) (by decide) d_To_addPlace_47 ?_
    refine sx_aload_n C 1 d_To_addPlace_48 rfl rfl ?_
    refine sx_iload C 0 d_To_addPlace_49 rfl ?_
    refine sx_iconst C d_To_addPlace_51 ?_
    refine sx_iadd C d_To_addPlace_52 ?_
    refine sx_puti C p_To_15 (by decide) rfl d_To_addPlace_53 ?_
    refine sx_iload C 0 d_To_addPlace_56 rfl ?_
    refine sx_ireturn C Rr rfl d_To_addPlace_58 ?_
    exact ⟨rfl, rfl, rfl⟩
  · exfalso; omega
theorem u31_sv {M : sx_M0} (hV : sv M) : sv (sx_up M 17 12 31) := by
  unfold sv at hV ⊢
  rw [sx_up_at, sx_up_slot (b := 0) (by decide), sx_up_slot (b := 1) (by decide), sx_up_slot (b := 11) (by decide), sx_up_slot (b := 13) (by decide), sx_up_ne (a := 18) (by decide), sx_up_ne (a := 27) (by decide), sx_up_ne (a := 29) (by decide)]
  refine ⟨hV.1, hV.2.1, hV.2.2.1, fun d p hd hp => ?_, hV.2.2.2.2.1, by decide, hV.2.2.2.2.2.2.1, hV.2.2.2.2.2.2.2.1, hV.2.2.2.2.2.2.2.2⟩
  rw [sx_up_ne (by omega)]
  exact hV.2.2.2.1 d p hd hp
abbrev u31 (M : sx_M0) : sx_M0 := sx_up M 17 12 31
set_option maxRecDepth 100000 in
set_option maxHeartbeats 4000000 in
theorem ct_Se_leastThinkable (l : Launch) (D : va_G) (tc : Nat → ClassId) (M : sx_M0) (hV : sv M) : sx_Met SC l D tc y_Se_leastThinkable w_Se_leastThinkable (rmk 3 120) [sx_A (17)] GL M (fun r G' M' => G' = GL ∧ ∃ x : Int, r = some (sx_J x) ∧ (∀ a, a ≠ 29 → M' a = u31 M a) ∧ sv M' ∧ ((x = lrS (u31 M) (dN M) 0 ∧ ∀ d, d < dN M → 0 < M 18 d → nuS (u31 M) d (M 17 1).toNat ≠ -1) ∨ (x = -1 ∧ ∃ d, d < dN M ∧ 0 < M 18 d ∧ nuS (u31 M) d (M 17 1).toNat = -1))) := by
  refine sx_enter (by decide) rfl (Nat.le_of_ble_eq_true rfl) (Ts := g_tbl) (fun _ h => List.mem_cons_of_mem _ h) (fun E C Rr hnm hnL => ?_)
  refine sx_aload_n C 0 d_Se_leastThinkable_0 rfl rfl ?_
  refine sx_bipush C d_Se_leastThinkable_1 (by decide) ?_
  refine sx_puti C p_Se_56 (by decide) rfl d_Se_leastThinkable_3 ?_
  refine sx_aload_n C 0 d_Se_leastThinkable_6 rfl rfl ?_
  refine sx_callV (n := 71) (As := []) (st := []) C (ct_Se_reckonLeastRest _ _ _ (u31 M) (u31_sv hV)) rfl (by decide) rfl (cv_Se_107 E C _ (by rw [Rr.2.2]; decide)) (Nat.le_of_ble_eq_true rfl) d_Se_leastThinkable_7 (by rw [Rr.2.2]; decide) (by decide) rfl rfl rfl (fun r7 G7 M7 hpo _ => ?_)
  obtain ⟨e1, b7, rfl, f7, k7, hb7⟩ := hpo
  rw [e1]
  show sx_X SC E (0, 0) GL M7 10 [(0, sx_A (17))] [sx_I (b7)]
  refine sx_if_eq C 22 ⟨by omega, by omega⟩ d_Se_leastThinkable_10 (by decide) (fun c10 => ?_) (fun c10 => ?_)
  · refine sx_ldc2 (v := (-1)) C (-1) (tb_ 95 (by decide +kernel) rfl) (by decide) d_Se_leastThinkable_22 ?_
    refine sx_lreturn C Rr rfl d_Se_leastThinkable_25 ?_
    rcases hb7 with ⟨q1, q2⟩ | ⟨q1, q2⟩
    · exact absurd q1 (by omega)
    · rw [show dN (u31 M) = dN M from congrArg Int.toNat (sx_up_slot (by decide)), show u31 M 18 = M 18 from sx_up_ne (by decide), show u31 M 17 1 = M 17 1 from sx_up_slot (by decide)] at q2
      exact ⟨rfl, _, rfl, f7, sv_29 (u31_sv hV) f7 k7, Or.inr ⟨rfl, q2⟩⟩
  · refine sx_aload_n C 0 d_Se_leastThinkable_13 rfl rfl ?_
    refine sx_getr C f_Se_37 29 (by decide) rfl rfl d_Se_leastThinkable_14 ?_
    refine sx_iconst C d_Se_leastThinkable_17 ?_
    refine sx_laload C 0 (by decide) rfl rfl rfl (by omega) (by decide) d_Se_leastThinkable_18 ?_
    refine sx_goto C 25 d_Se_leastThinkable_19 (by decide) ?_
    refine sx_lreturn C Rr rfl d_Se_leastThinkable_25 ?_
    rcases hb7 with ⟨q1, q2⟩ | ⟨q1, q2⟩
    · have q4 := q2.2.2.2.1 0 (Nat.le_refl 0) (Nat.zero_le _)
      have q3 := q2.2.2.1
      rw [show dN (u31 M) = dN M from congrArg Int.toNat (sx_up_slot (by decide)), show u31 M 18 = M 18 from sx_up_ne (by decide), show u31 M 17 1 = M 17 1 from sx_up_slot (by decide)] at q3
      rw [show dN (u31 M) = dN M from congrArg Int.toNat (sx_up_slot (by decide)), Nat.sub_zero] at q4
      exact ⟨rfl, _, rfl, f7, sv_29 (u31_sv hV) f7 k7, Or.inl ⟨q4, fun d h1 h2 => q3 d (Nat.zero_le d) h1 h2⟩⟩
    · exact absurd q1 (by omega)
