def owP (F O : Nat → Nat → Int) (c : Nat → Int) (k n y s : Nat) : Prop := ((y + 1 = k ∨ F y s = -1) ∧ O y s = F y s) ∨ (y + 1 < k ∧ F y s ≠ -1 ∧ wnP (F y) (O (y + 1)) c s n (O y s))
abbrev FS (M : sx_M0) (y s : Nat) : Int := M (39 + 1 + y) s
abbrev OS (M : sx_M0) (y s : Nat) : Int := M (46 + 1 + y) s
def roB (M : sx_M0) (k y s : Nat) : Prop := -1 ≤ M (46 + 1 + y) s ∧ M (46 + 1 + y) s ≤ 200000000 * ((k : Int) - (y : Int))
def roI (M0 M : sx_M0) (k n e : Nat) : Prop := (∀ a, (a < 47 ∨ 53 ≤ a) → M a = M0 a) ∧ (∀ y s, e ≤ y → y < k → s < n → owP (FS M0) (OS M) (M0 28) k n y s ∧ roB M k y s)
def roN (M0 M : sx_M0) (k n m s : Nat) : Prop := roI M0 M k n (m + 1) ∧ (∀ s', s' < s → owP (FS M0) (OS M) (M0 28) k n m s' ∧ roB M k m s')
theorem ow_up {M0 M : sx_M0} {k n m s y s' : Nat} {x : Int} (hm : m < k) (h : m < y ∨ (y = m ∧ s' ≠ s)) : (owP (FS M0) (OS M) (M0 28) k n y s' ∧ roB M k y s') → (owP (FS M0) (OS (sx_up M (46 + 1 + m) s x)) (M0 28) k n y s' ∧ roB (sx_up M (46 + 1 + m) s x) k y s') := by
  intro hq
  have e1 : OS (sx_up M (46 + 1 + m) s x) (y + 1) = OS M (y + 1) := by
    funext t
    show sx_up M (46 + 1 + m) s x (46 + 1 + (y + 1)) t = _
    rw [sx_up_ne (by omega)]
  have e2 : OS (sx_up M (46 + 1 + m) s x) y s' = OS M y s' := by
    show sx_up M (46 + 1 + m) s x (46 + 1 + y) s' = M (46 + 1 + y) s'
    rcases h with h | ⟨h1, h2⟩
    · rw [sx_up_ne (by omega)]
    · subst h1
      rw [sx_up_slot h2]
  constructor
  · unfold owP
    rw [e1, e2]
    exact hq.1
  · unfold roB
    rw [show sx_up M (46 + 1 + m) s x (46 + 1 + y) s' = M (46 + 1 + y) s' from e2]
    exact hq.2
theorem ro_step {M0 M : sx_M0} {k n m s : Nat} {x : Int} (hm : m < k) (hk6 : k ≤ 6) (hs : s < n) (h : roN M0 M k n m s) (hx : ((m + 1 = k ∨ FS M0 m s = -1) ∧ x = FS M0 m s) ∨ (m + 1 < k ∧ FS M0 m s ≠ -1 ∧ wnP (FS M0 m) (OS M (m + 1)) (M0 28) s n x)) (hb : -1 ≤ x ∧ x ≤ 200000000 * ((k : Int) - (m : Int))) : roN M0 (sx_up M (46 + 1 + m) s x) k n m (s + 1) := by
  refine ⟨⟨fun a ha => by rw [sx_up_ne (by omega)]; exact h.1.1 a ha, fun y s' q1 q2 q3 => ?_⟩, fun s' q => ?_⟩
  · exact ow_up hm (Or.inl (by omega)) (h.1.2 y s' q1 q2 q3)
  · by_cases e : s' = s
    · subst e
      have e0 : OS (sx_up M (46 + 1 + m) s' x) m s' = x := sx_up_at
      constructor
      · unfold owP
        rw [e0, show OS (sx_up M (46 + 1 + m) s' x) (m + 1) = OS M (m + 1) from funext fun t => by show sx_up M (46 + 1 + m) s' x (46 + 1 + (m + 1)) t = _; rw [sx_up_ne (by omega)]]
        exact hx
      · unfold roB
        rw [show sx_up M (46 + 1 + m) s' x (46 + 1 + m) s' = x from e0]
        exact hb
    · exact ow_up hm (Or.inr ⟨rfl, e⟩) (h.2 s' (by omega))
theorem wn_bd {F O1 c : Nat → Int} {s n : Nat} {x B : Int} (hF : -1 ≤ F s ∧ F s ≤ 100000000) (hF1 : F s ≠ -1) (hO : ∀ t, t < n → -1 ≤ O1 t ∧ O1 t ≤ B) (hB : 0 ≤ B) (hc : ∀ t, t < n → 0 ≤ c t ∧ c t ≤ 5000000) (h : wnP F O1 c s n x) : -1 ≤ x ∧ x ≤ B + 200000000 := by
  obtain ⟨q, le, h1, h2⟩ := h
  rcases h2 with ⟨h2, h3⟩ | ⟨h2, h3⟩
  · exact ⟨by omega, by omega⟩
  · rcases h1 with ⟨z1, z2⟩ | ⟨t, z1, z2, z3, z4, z5⟩
    · exact absurd z1 h2
    · have q1 := hO t z1
      have q2 := hc (df t s) (by have := df_le t s; omega)
      exact ⟨by omega, by omega⟩
set_option maxRecDepth 100000 in
set_option maxHeartbeats 4000000 in
theorem lp2_Ca_reckonOnward  (M0 : sx_M0) (k n : Nat) (hk6 : k ≤ 6) (hn9 : n ≤ 32) (hF : ∀ y s, y < k → s < n → -1 ≤ M0 (39 + 1 + y) s ∧ M0 (39 + 1 + y) s ≤ 100000000) (hc : ∀ s, s < n → 0 ≤ M0 28 s ∧ M0 28 s ≤ 5000000) (m : Nat) (hm : m < k) {E : sx_E} (C : sx_C SC g_tbl "SiteChoice$Calendar" c_Ca_reckonOnward E) (Rr : sx_Ret SC none (rmk 2 80) (fun r G' M' => G' = GL ∧ r = none ∧ roI M0 M' k n 0) E) (hnL : sx_nL E = 6) (hk : ∀ M : sx_M0, roI M0 M k n m → sx_X SC E (0, 0) GL M 83 [(4, sx_I (((m : Nat) : Int))), (0, sx_A (37)), (1, sx_I (((k : Nat) : Int))), (2, sx_I (((n : Nat) : Int))), (3, sx_A (17))] []) : ∀ (nF : Nat) (s : Nat) (M : sx_M0), n - s < nF → roN M0 M k n m s → s ≤ n → sx_X SC E (0, 0) GL M 13 [(5, sx_I (((s : Nat) : Int))), (4, sx_I (((m : Nat) : Int))), (0, sx_A (37)), (1, sx_I (((k : Nat) : Int))), (2, sx_I (((n : Nat) : Int))), (3, sx_A (17))] [] := by
  intro nF
  induction nF with
  | zero => intro s M h; omega
  | succ nF ih =>
    intro s M hn h h2
    have e28 : M 28 = M0 28 := h.1.1 28 (Or.inl (by decide))
    have eF : M (39 + 1 + m) = M0 (39 + 1 + m) := h.1.1 _ (by omega)
    refine sx_iload C 0 d_Ca_reckonOnward_13 rfl ?_
    refine sx_iload_n C 4 d_Ca_reckonOnward_15 rfl rfl ?_
    refine sx_icmp_ge C 83 ⟨by omega, by omega⟩ ⟨by omega, by omega⟩ d_Ca_reckonOnward_16 (by decide) (fun c16 => ?_) (fun c16 => ?_)
    · refine sx_sub [1, 2, 3, 4, 5] rfl ?_
      exact hk M ⟨h.1.1, fun y s' q1 q2 q3 => by rcases Nat.lt_or_ge m y with q | q; exact h.1.2 y s' q q2 q3; rw [show y = m by omega]; exact h.2 s' (by omega)⟩
    · refine sx_aload_n C 2 d_Ca_reckonOnward_19 rfl rfl ?_
      refine sx_getr C f_Ca_24 46 (by decide) rfl rfl d_Ca_reckonOnward_20 ?_
      refine sx_iload C 1 d_Ca_reckonOnward_23 rfl ?_
      refine sx_aaload C m (46 + 1 + m) (by decide) rfl rfl rfl (by omega) (by decide) (if_pos (by omega)) d_Ca_reckonOnward_25 ?_
      refine sx_iload C 0 d_Ca_reckonOnward_26 rfl ?_
      refine sx_iload C 1 d_Ca_reckonOnward_28 rfl ?_
      refine sx_iload_n C 3 d_Ca_reckonOnward_30 rfl rfl ?_
      refine sx_iconst C d_Ca_reckonOnward_31 ?_
      refine sx_isub C d_Ca_reckonOnward_32 ?_
      refine sx_icmp_eq C 53 ⟨by omega, by omega⟩ ⟨by omega, by omega⟩ d_Ca_reckonOnward_33 (by decide) (fun c33 => ?_) (fun c33 => ?_)
      · refine sx_aload_n C 2 d_Ca_reckonOnward_53 rfl rfl ?_
        refine sx_getr C f_Ca_21 39 (by decide) rfl rfl d_Ca_reckonOnward_54 ?_
        refine sx_iload C 1 d_Ca_reckonOnward_57 rfl ?_
        refine sx_aaload C m (39 + 1 + m) (by decide) rfl rfl rfl (by omega) (by decide) (if_pos (by omega)) d_Ca_reckonOnward_59 ?_
        refine sx_iload C 0 d_Ca_reckonOnward_60 rfl ?_
        refine sx_laload C s (by show (39 + 1 + m) < 71; omega) (gl_39 _ (by omega)) rfl rfl (by omega) (by decide) d_Ca_reckonOnward_62 ?_
        refine sx_goto C 76 d_Ca_reckonOnward_63 (by decide) ?_
        refine sx_lastore C s (by show (46 + 1 + m) < 71; omega) (gl_46 _ (by omega)) rfl rfl (by omega) (by decide) d_Ca_reckonOnward_76 ?_
        refine sx_iinc (lv' := [(5, sx_I (((s + 1 : Nat) : Int))), (4, sx_I (((m : Nat) : Int))), (0, sx_A (37)), (1, sx_I (((k : Nat) : Int))), (2, sx_I (((n : Nat) : Int))), (3, sx_A (17))]) C 0 d_Ca_reckonOnward_77 rfl (by rw [hnL]; decide) rfl ?_
        refine sx_goto C 13 d_Ca_reckonOnward_80 (by decide) ?_
        refine sx_sub [0, 1, 2, 3, 4, 5] rfl ?_
        exact ih (s + 1) _ (by omega) (ro_step hm hk6 (by omega) h (Or.inl ⟨by show m + 1 = k ∨ M0 (39 + 1 + m) s = -1; rw [← eF]; omega, by show M (39 + 1 + m) s = M0 (39 + 1 + m) s; rw [eF]⟩) (by rw [eF]; have := hF m s hm (by omega); exact ⟨by omega, by omega⟩)) (by omega)
      · refine sx_aload_n C 2 d_Ca_reckonOnward_36 rfl rfl ?_
        refine sx_getr C f_Ca_21 39 (by decide) rfl rfl d_Ca_reckonOnward_37 ?_
        refine sx_iload C 1 d_Ca_reckonOnward_40 rfl ?_
        refine sx_aaload C m (39 + 1 + m) (by decide) rfl rfl rfl (by omega) (by decide) (if_pos (by omega)) d_Ca_reckonOnward_42 ?_
        refine sx_iload C 0 d_Ca_reckonOnward_43 rfl ?_
        refine sx_laload C s (by show (39 + 1 + m) < 71; omega) (gl_39 _ (by omega)) rfl rfl (by omega) (by decide) d_Ca_reckonOnward_45 ?_
        have hFs : -1 ≤ M (39 + 1 + m) s ∧ M (39 + 1 + m) s ≤ 100000000 := by rw [eF]; exact hF m s hm (by omega)
        refine sx_ldc2 (v := (-1)) C (-1) (tb_ 493 (by decide +kernel) rfl) (by decide) d_Ca_reckonOnward_46 ?_
        refine sx_lcmp_ne C 66 ⟨by omega, by omega⟩ ⟨by omega, by omega⟩ d_Ca_reckonOnward_49 d_Ca_reckonOnward_50 (by decide) (fun c50 => ?_) (fun c50 => ?_)
        · refine sx_aload_n C 2 d_Ca_reckonOnward_66 rfl rfl ?_
          refine sx_iload C 1 d_Ca_reckonOnward_67 rfl ?_
          refine sx_iload C 0 d_Ca_reckonOnward_69 rfl ?_
          refine sx_iload_n C 4 d_Ca_reckonOnward_71 rfl rfl ?_
          refine sx_aload_n C 5 d_Ca_reckonOnward_72 rfl rfl ?_
          refine sx_callV (n := 71) (As := [sx_I (((m : Nat) : Int)), sx_I (((s : Nat) : Int)), sx_I (((n : Nat) : Int)), sx_A (17)]) (st := [sx_I (((s : Nat) : Int)), sx_A ((46 + 1 + m))]) C (ct_Ca_withNext _ _ _ M m s n (by omega) (by omega) hn9 (fun t ht => by have := (h.1.2 (m + 1) t (by omega) (by omega) ht).2; unfold roB at this; omega) (fun t ht => by rw [e28]; have := hc t ht; omega)) rfl (by decide) rfl (cv_Ca_70 E C _ (by rw [Rr.2.2]; decide)) (Nat.le_of_ble_eq_true rfl) d_Ca_reckonOnward_73 (by rw [Rr.2.2]; decide) (by decide) rfl (by simp [sx_ok]; omega) rfl (fun r73 G73 M73 hpo _ => ?_)
          obtain ⟨e1, e2, x73, rfl, z73⟩ := hpo
          rw [e1, e2]
          rw [e28, eF] at z73
          have b73 := wn_bd (B := 200000000 * ((k : Int) - ((m + 1 : Nat) : Int))) (hF m s hm (by omega)) (by rw [← eF]; exact c50) (fun t ht => (h.1.2 (m + 1) t (by omega) (by omega) ht).2) (by omega) hc z73
          replace b73 : -1 ≤ x73 ∧ x73 ≤ 200000000 * ((k : Int) - (m : Int)) := ⟨b73.1, by have := b73.2; omega⟩
          show sx_X SC E (0, 0) GL M 76 [(5, sx_I (((s : Nat) : Int))), (4, sx_I (((m : Nat) : Int))), (0, sx_A (37)), (1, sx_I (((k : Nat) : Int))), (2, sx_I (((n : Nat) : Int))), (3, sx_A (17))] [sx_J (x73), sx_I (((s : Nat) : Int)), sx_A ((46 + 1 + m))]
          refine sx_lastore C s (by show (46 + 1 + m) < 71; omega) (gl_46 _ (by omega)) rfl rfl (by omega) (by decide) d_Ca_reckonOnward_76 ?_
          refine sx_iinc (lv' := [(5, sx_I (((s + 1 : Nat) : Int))), (4, sx_I (((m : Nat) : Int))), (0, sx_A (37)), (1, sx_I (((k : Nat) : Int))), (2, sx_I (((n : Nat) : Int))), (3, sx_A (17))]) C 0 d_Ca_reckonOnward_77 rfl (by rw [hnL]; decide) rfl ?_
          refine sx_goto C 13 d_Ca_reckonOnward_80 (by decide) ?_
          refine sx_sub [0, 1, 2, 3, 4, 5] rfl ?_
          exact ih (s + 1) _ (by omega) (ro_step hm hk6 (by omega) h (Or.inr ⟨by omega, by show M0 (39 + 1 + m) s ≠ -1; rw [← eF]; exact c50, z73⟩) b73) (by omega)
        · refine sx_aload_n C 2 d_Ca_reckonOnward_53 rfl rfl ?_
          refine sx_getr C f_Ca_21 39 (by decide) rfl rfl d_Ca_reckonOnward_54 ?_
          refine sx_iload C 1 d_Ca_reckonOnward_57 rfl ?_
          refine sx_aaload C m (39 + 1 + m) (by decide) rfl rfl rfl (by omega) (by decide) (if_pos (by omega)) d_Ca_reckonOnward_59 ?_
          refine sx_iload C 0 d_Ca_reckonOnward_60 rfl ?_
          refine sx_laload C s (by show (39 + 1 + m) < 71; omega) (gl_39 _ (by omega)) rfl rfl (by omega) (by decide) d_Ca_reckonOnward_62 ?_
          refine sx_goto C 76 d_Ca_reckonOnward_63 (by decide) ?_
          refine sx_lastore C s (by show (46 + 1 + m) < 71; omega) (gl_46 _ (by omega)) rfl rfl (by omega) (by decide) d_Ca_reckonOnward_76 ?_
          refine sx_iinc (lv' := [(5, sx_I (((s + 1 : Nat) : Int))), (4, sx_I (((m : Nat) : Int))), (0, sx_A (37)), (1, sx_I (((k : Nat) : Int))), (2, sx_I (((n : Nat) : Int))), (3, sx_A (17))]) C 0 d_Ca_reckonOnward_77 rfl (by rw [hnL]; decide) rfl ?_
          refine sx_goto C 13 d_Ca_reckonOnward_80 (by decide) ?_
          refine sx_sub [0, 1, 2, 3, 4, 5] rfl ?_
          exact ih (s + 1) _ (by omega) (ro_step hm hk6 (by omega) h (Or.inl ⟨by show m + 1 = k ∨ M0 (39 + 1 + m) s = -1; rw [← eF]; omega, by show M (39 + 1 + m) s = M0 (39 + 1 + m) s; rw [eF]⟩) (by rw [eF]; have := hF m s hm (by omega); exact ⟨by omega, by omega⟩)) (by omega)
set_option maxRecDepth 100000 in
set_option maxHeartbeats 4000000 in
theorem lp_Ca_reckonOnward (M0 : sx_M0) (k n : Nat) (hk6 : k ≤ 6) (hn9 : n ≤ 32) (hF : ∀ y s, y < k → s < n → -1 ≤ M0 (39 + 1 + y) s ∧ M0 (39 + 1 + y) s ≤ 100000000) (hc : ∀ s, s < n → 0 ≤ M0 28 s ∧ M0 28 s ≤ 5000000) {E : sx_E} (C : sx_C SC g_tbl "SiteChoice$Calendar" c_Ca_reckonOnward E) (Rr : sx_Ret SC none (rmk 2 80) (fun r G' M' => G' = GL ∧ r = none ∧ roI M0 M' k n 0) E) (hnL : sx_nL E = 6) : ∀ (e : Nat), e ≤ k → ∀ (M : sx_M0), roI M0 M k n e → sx_X SC E (0, 0) GL M 5 [(4, sx_I (((e : Nat) : Int) - 1)), (0, sx_A (37)), (1, sx_I (((k : Nat) : Int))), (2, sx_I (((n : Nat) : Int))), (3, sx_A (17))] [] := by
  intro e
  induction e with
  | zero =>
    intro _ M h
    refine sx_iload C 0 d_Ca_reckonOnward_5 rfl ?_
    refine sx_if_lt C 89 ⟨by omega, by omega⟩ d_Ca_reckonOnward_7 (by decide) (fun c7 => ?_) (fun c7 => ?_)
    · refine sx_return C Rr rfl d_Ca_reckonOnward_89 ?_
      exact ⟨rfl, rfl, h⟩
    · exfalso; omega
  | succ m ih =>
    intro hm M h
    rw [show ((m + 1 : Nat) : Int) - 1 = ((m : Nat) : Int) by omega]
    refine sx_iload C 0 d_Ca_reckonOnward_5 rfl ?_
    refine sx_if_lt C 89 ⟨by omega, by omega⟩ d_Ca_reckonOnward_7 (by decide) (fun c7 => ?_) (fun c7 => ?_)
    · exfalso; omega
    · refine sx_iconst C d_Ca_reckonOnward_10 ?_
      refine sx_istore (lv' := [(5, sx_I (0)), (4, sx_I (((m : Nat) : Int))), (0, sx_A (37)), (1, sx_I (((k : Nat) : Int))), (2, sx_I (((n : Nat) : Int))), (3, sx_A (17))]) C d_Ca_reckonOnward_11 (by rw [hnL]; decide) rfl ?_
      refine sx_sub [0, 1, 2, 3, 4, 5] rfl ?_
      refine lp2_Ca_reckonOnward M0 k n hk6 hn9 hF hc m (by omega) C Rr hnL (fun M2 hx2 => ?_) _ 0 M (Nat.lt_succ_self _) ⟨h, fun s q => by omega⟩ (Nat.zero_le _)
      refine sx_iinc (lv' := [(4, sx_I (((m : Nat) : Int) + (-1))), (0, sx_A (37)), (1, sx_I (((k : Nat) : Int))), (2, sx_I (((n : Nat) : Int))), (3, sx_A (17))]) C 0 d_Ca_reckonOnward_83 rfl (by rw [hnL]; decide) rfl ?_
      refine sx_goto C 5 d_Ca_reckonOnward_86 (by decide) ?_
      refine sx_sub [0, 1, 2, 3, 4] rfl ?_
      rw [show ((m : Nat) : Int) + (-1) = ((m : Nat) : Int) - 1 by omega]
      exact ih (by omega) M2 hx2
set_option maxRecDepth 100000 in
set_option maxHeartbeats 4000000 in
theorem ct_Ca_reckonOnward (l : Launch) (D : va_G) (tc : Nat → ClassId) (M : sx_M0) (k n : Nat) (hk6 : k ≤ 6) (hn9 : n ≤ 32) (hF : ∀ y s, y < k → s < n → -1 ≤ M (39 + 1 + y) s ∧ M (39 + 1 + y) s ≤ 100000000) (hc : ∀ s, s < n → 0 ≤ M 28 s ∧ M 28 s ≤ 5000000) : sx_Met SC l D tc y_Ca_reckonOnward w_Ca_reckonOnward (rmk 2 80) [sx_A (37), sx_I (((k : Nat) : Int)), sx_I (((n : Nat) : Int)), sx_A (17)] GL M (fun r G' M' => G' = GL ∧ r = none ∧ roI M M' k n 0) := by
  refine sx_enter (by decide) rfl (Nat.le_of_ble_eq_true rfl) (Ts := g_tbl) (fun _ h => List.mem_cons_of_mem _ h) (fun E C Rr hnm hnL => ?_)
  refine sx_iload_n C 1 d_Ca_reckonOnward_0 rfl rfl ?_
  refine sx_iconst C d_Ca_reckonOnward_1 ?_
  refine sx_isub C d_Ca_reckonOnward_2 ?_
  refine sx_istore (lv' := [(4, sx_I (((k : Nat) : Int) - 1)), (0, sx_A (37)), (1, sx_I (((k : Nat) : Int))), (2, sx_I (((n : Nat) : Int))), (3, sx_A (17))]) C d_Ca_reckonOnward_3 (by rw [hnL]; decide) rfl ?_
  refine sx_sub [0, 1, 2, 3, 4] rfl ?_
  exact lp_Ca_reckonOnward M k n hk6 hn9 hF hc C Rr hnL k (Nat.le_refl k) M ⟨fun _ _ => rfl, fun y s q1 q2 => by omega⟩
/-- the sets held for the years before y; the last of them is b -/
def hdI (M0 M : sx_M0) (k n y b : Nat) : Prop := (∀ a, a ≠ 37 → a ≠ 38 → M a = M0 a) ∧ M 37 0 = (k : Int) ∧ (∀ j, j < 6 → 0 ≤ M 38 j ∧ M 38 j ≤ 31) ∧ b < n ∧ ∃ H : Nat → Nat, H 0 = 0 ∧ H y = b ∧ (∀ j, j < y → M 38 j = (H (j + 1) : Int) ∧ H (j + 1) < n ∧ M0 (46 + 1 + j) (H (j + 1)) ≠ -1 ∧ ∃ le, chP (M0 (46 + 1 + j)) (M0 28) (H j) n (H (j + 1) : Int) le)
theorem hd_step {M0 M : sx_M0} {k n y b t : Nat} {le : Int} (hy : y < 6) (hn9 : n ≤ 32) (ht : t < n) (h0 : M0 (46 + 1 + y) t ≠ -1) (hc : chP (M0 (46 + 1 + y)) (M0 28) b n (t : Int) le) (h : hdI M0 M k n y b) : hdI M0 (sx_up M 38 y (t : Int)) k n (y + 1) t := by
  obtain ⟨f1, f2, f3, f4, H, g0, g1, g2⟩ := h
  refine ⟨fun a p1 p2 => by rw [sx_up_ne p2]; exact f1 a p1 p2, by rw [sx_up_ne (by decide)]; exact f2, fun j hj => ?_, ht, fun j => if j = y + 1 then t else H j, ?_, ?_, fun j hj => ?_⟩
  · by_cases e : j = y
    · subst e
      rw [sx_up_at]; exact ⟨by omega, by omega⟩
    · rw [sx_up_slot e]; exact f3 j hj
  · show (if 0 = y + 1 then t else H 0) = 0
    rw [if_neg (by omega)]; exact g0
  · exact if_pos rfl
  · show sx_up M 38 y (t : Int) 38 j = ((if j + 1 = y + 1 then t else H (j + 1) : Nat) : Int) ∧ (if j + 1 = y + 1 then t else H (j + 1)) < n ∧ M0 (46 + 1 + j) (if j + 1 = y + 1 then t else H (j + 1)) ≠ -1 ∧ ∃ le, chP (M0 (46 + 1 + j)) (M0 28) (if j = y + 1 then t else H j) n ((if j + 1 = y + 1 then t else H (j + 1) : Nat) : Int) le
    rw [if_neg (show ¬ j = y + 1 by omega)]
    by_cases e : j = y
    · subst e
      rw [if_pos rfl, sx_up_at, g1]
      exact ⟨rfl, ht, h0, le, hc⟩
    · rw [if_neg (by omega), sx_up_slot e]
      exact g2 j (by omega)
set_option maxRecDepth 100000 in
set_option maxHeartbeats 4000000 in
theorem lp_Ca_hold  (M0 : sx_M0) (hH : hv M0) (k n : Nat) (hk6 : k ≤ 6) (hn9 : n ≤ 32) (hn1 : 0 < n) (hO : ∀ y s, y < k → s < n → -1 ≤ M0 (46 + 1 + y) s ∧ M0 (46 + 1 + y) s ≤ 10000000000) (hc : ∀ s, s < n → 0 ≤ M0 28 s ∧ M0 28 s ≤ 10000000000) (h0 : 0 < k → ∃ s, s < n ∧ M0 (46 + 1 + 0) s ≠ -1) (hnx : ∀ y s, y + 1 < k → s < n → M0 (46 + 1 + y) s ≠ -1 → ∃ t, t < n ∧ M0 (46 + 1 + (y + 1)) t ≠ -1) {E : sx_E} (C : sx_C SC g_tbl "SiteChoice$Calendar" c_Ca_hold E) (Rr : sx_Ret SC none (rmk 1 40) (fun r G' M' => G' = GL ∧ r = none ∧ ∃ b, hdI M0 M' k n k b) E) (hnL : sx_nL E = 7) : ∀ (nF : Nat) (y : Nat) (b : Nat) (M : sx_M0), k - y < nF → hdI M0 M k n y b → y ≤ k → sx_X SC E (0, 0) GL M 11 [(5, sx_I (((y : Nat) : Int))), (4, sx_I (((b : Nat) : Int))), (0, sx_A (37)), (1, sx_I (((k : Nat) : Int))), (2, sx_I (((n : Nat) : Int))), (3, sx_A (17))] [] := by
  intro nF
  induction nF with
  | zero => intro y b M h; omega
  | succ nF ih =>
    intro y b M hn h h2
    have e28 : M 28 = M0 28 := h.1 28 (by decide) (by decide)
    have eO : M (46 + 1 + y) = M0 (46 + 1 + y) := h.1 _ (by omega) (by omega)
    refine sx_iload C 0 d_Ca_hold_11 rfl ?_
    refine sx_iload_n C 3 d_Ca_hold_13 rfl rfl ?_
    refine sx_icmp_ge C 48 ⟨by omega, by omega⟩ ⟨by omega, by omega⟩ d_Ca_hold_14 (by decide) (fun c14 => ?_) (fun c14 => ?_)
    · refine sx_return C Rr rfl d_Ca_hold_48 ?_
      have e : y = k := by omega
      rw [e] at h
      exact ⟨rfl, rfl, b, h⟩
    · have hex : ∃ s, s < n ∧ M0 (46 + 1 + y) s ≠ -1 := by
        rcases Nat.eq_zero_or_pos y with z | z
        · rw [z]; exact h0 (by omega)
        · obtain ⟨f1, f2, f3, f4, H, g0, g1, g2⟩ := h
          have g := g2 (y - 1) (by omega)
          have := hnx (y - 1) (H (y - 1 + 1)) (by omega) g.2.1 g.2.2.1
          rw [show y - 1 + 1 = y by omega] at this
          exact this
      refine sx_aload_n C 2 d_Ca_hold_17 rfl rfl ?_
      refine sx_iload C 0 d_Ca_hold_18 rfl ?_
      refine sx_iload C 1 d_Ca_hold_20 rfl ?_
      refine sx_iload_n C 4 d_Ca_hold_22 rfl rfl ?_
      refine sx_aload_n C 5 d_Ca_hold_23 rfl rfl ?_
      refine sx_callV (n := 71) (As := [sx_I (((y : Nat) : Int)), sx_I (((b : Nat) : Int)), sx_I (((n : Nat) : Int)), sx_A (17)]) (st := []) C (ct_Ca_cheapestNext _ _ _ M y b n (by omega) (by have := h.2.2.2.1; omega) hn9 (fun s hs => by rw [eO]; exact hO y s (by omega) hs) (fun s hs => by rw [e28]; exact hc s hs)) rfl (by decide) rfl (cv_Ca_46 E C _ (by rw [Rr.2.2]; decide)) (Nat.le_of_ble_eq_true rfl) d_Ca_hold_24 (by rw [Rr.2.2]; decide) (by decide) rfl rfl rfl (fun r24 G24 M24 hpo _ => ?_)
      obtain ⟨e1, e2, q24, le24, rfl, hch⟩ := hpo
      rw [e1, e2]
      rw [e28, eO] at hch
      have hch2 := hch
      rcases hch with ⟨z1, z2⟩ | ⟨t, z1, z2, z3, z4, z5⟩
      · exfalso; obtain ⟨w1, w2, w3⟩ := hex; exact w3 (z2 w1 w2)
      subst z2
      show sx_X SC E (0, 0) GL M 27 [(5, sx_I (((y : Nat) : Int))), (4, sx_I (((b : Nat) : Int))), (0, sx_A (37)), (1, sx_I (((k : Nat) : Int))), (2, sx_I (((n : Nat) : Int))), (3, sx_A (17))] [sx_I (((t : Nat) : Int))]
      refine sx_istore (lv' := [(6, sx_I (((t : Nat) : Int))), (5, sx_I (((y : Nat) : Int))), (4, sx_I (((b : Nat) : Int))), (0, sx_A (37)), (1, sx_I (((k : Nat) : Int))), (2, sx_I (((n : Nat) : Int))), (3, sx_A (17))]) C d_Ca_hold_27 (by rw [hnL]; decide) rfl ?_
      refine sx_aload_n C 3 d_Ca_hold_29 rfl rfl ?_
      refine sx_getr C f_Ca_15 38 (by decide) rfl rfl d_Ca_hold_30 ?_
      refine sx_iload C 1 d_Ca_hold_33 rfl ?_
      refine sx_iload C 0 d_Ca_hold_35 rfl ?_
      refine sx_iastore C y (by decide) rfl rfl rfl (by omega) (by decide) d_Ca_hold_37 ?_
      refine sx_iload C 0 d_Ca_hold_38 rfl ?_
      refine sx_istore (lv' := [(4, sx_I (((t : Nat) : Int))), (6, sx_I (((t : Nat) : Int))), (5, sx_I (((y : Nat) : Int))), (0, sx_A (37)), (1, sx_I (((k : Nat) : Int))), (2, sx_I (((n : Nat) : Int))), (3, sx_A (17))]) C d_Ca_hold_40 (by rw [hnL]; decide) rfl ?_
      refine sx_iinc (lv' := [(5, sx_I (((y + 1 : Nat) : Int))), (4, sx_I (((t : Nat) : Int))), (6, sx_I (((t : Nat) : Int))), (0, sx_A (37)), (1, sx_I (((k : Nat) : Int))), (2, sx_I (((n : Nat) : Int))), (3, sx_A (17))]) C 2 d_Ca_hold_42 rfl (by rw [hnL]; decide) rfl ?_
      refine sx_goto C 11 d_Ca_hold_45 (by decide) ?_
      refine sx_sub [0, 1, 3, 4, 5, 6] rfl ?_
      exact ih (y + 1) t _ (by omega) (hd_step (by omega) hn9 z1 z3 hch2 h) (by omega)
set_option maxRecDepth 100000 in
set_option maxHeartbeats 4000000 in
theorem ct_Ca_hold (l : Launch) (D : va_G) (tc : Nat → ClassId) (M : sx_M0) (hH : hv M) (k n : Nat) (hk6 : k ≤ 6) (hn9 : n ≤ 32) (hn1 : 0 < n) (hO : ∀ y s, y < k → s < n → -1 ≤ M (46 + 1 + y) s ∧ M (46 + 1 + y) s ≤ 10000000000) (hc : ∀ s, s < n → 0 ≤ M 28 s ∧ M 28 s ≤ 10000000000) (h0 : 0 < k → ∃ s, s < n ∧ M (46 + 1 + 0) s ≠ -1) (hnx : ∀ y s, y + 1 < k → s < n → M (46 + 1 + y) s ≠ -1 → ∃ t, t < n ∧ M (46 + 1 + (y + 1)) t ≠ -1) : sx_Met SC l D tc y_Ca_hold w_Ca_hold (rmk 1 40) [sx_A (37), sx_I (((k : Nat) : Int)), sx_I (((n : Nat) : Int)), sx_A (17)] GL M (fun r G' M' => G' = GL ∧ r = none ∧ ∃ b, hdI M M' k n k b) := by
  refine sx_enter (by decide) rfl (Nat.le_of_ble_eq_true rfl) (Ts := g_tbl) (fun _ h => List.mem_cons_of_mem _ h) (fun E C Rr hnm hnL => ?_)
  refine sx_aload_n C 0 d_Ca_hold_0 rfl rfl ?_
  refine sx_iload_n C 1 d_Ca_hold_1 rfl rfl ?_
  refine sx_puti C p_Ca_9 (by decide) rfl d_Ca_hold_2 ?_
  refine sx_iconst C d_Ca_hold_5 ?_
  refine sx_istore (lv' := [(4, sx_I (0)), (0, sx_A (37)), (1, sx_I (((k : Nat) : Int))), (2, sx_I (((n : Nat) : Int))), (3, sx_A (17))]) C d_Ca_hold_6 (by rw [hnL]; decide) rfl ?_
  refine sx_iconst C d_Ca_hold_8 ?_
  refine sx_istore (lv' := [(5, sx_I (0)), (4, sx_I (0)), (0, sx_A (37)), (1, sx_I (((k : Nat) : Int))), (2, sx_I (((n : Nat) : Int))), (3, sx_A (17))]) C d_Ca_hold_9 (by rw [hnL]; decide) rfl ?_
  refine sx_sub [0, 1, 2, 3, 4, 5] rfl ?_
  exact lp_Ca_hold M hH k n hk6 hn9 hn1 hO hc h0 hnx C Rr hnL _ 0 0 _ (Nat.lt_succ_self _) ⟨fun a p1 p2 => sx_up_ne p1, sx_up_at, fun j hj => by rw [sx_up_ne (by decide)]; exact hH.2.2.2.2.2.2.1 j hj, hn1, fun _ => 0, rfl, rfl, fun j hj => by omega⟩ (Nat.zero_le _)
