set_option maxRecDepth 100000 in
set_option maxHeartbeats 4000000 in
theorem ct_Se_leastSum (l : Launch) (D : va_G) (tc : Nat → ClassId) (M : sx_M0) (hV : sv M) (W : Nat) (hW : W < 32) (hR : ∀ p, p < 5 → 0 ≤ M 19 p ∧ M 19 p ≤ 1000) : sx_Met SC l D tc y_Se_leastSum w_Se_leastSum (rmk 24 900) [sx_A (17), sx_I (((W : Nat) : Int))] GL M (fun r G' M' => G' = GL ∧ ∃ x : Int, r = some (sx_J x) ∧ x = M' 17 11 ∧ lsF M M' ∧ sv M' ∧ bstP (jW M W) (M 19) (M 17 13) x (M' 32)) := by
  refine sx_enter (by decide) rfl (Nat.le_of_ble_eq_true rfl) (Ts := g_tbl) (fun _ h => List.mem_cons_of_mem _ h) (fun E C Rr hnm hnL => ?_)
  have g0 := hV.1
  refine sx_aload_n C 0 d_Se_leastSum_0 rfl rfl ?_
  refine sx_ldc2 (v := (-1)) C (-1) (tb_ 95 (by decide +kernel) rfl) (by decide) d_Se_leastSum_1 ?_
  refine sx_putl C p_Se_52 (by decide) rfl d_Se_leastSum_4 ?_
  refine sx_aload_n C 0 d_Se_leastSum_7 rfl rfl ?_
  refine sx_iload_n C 1 d_Se_leastSum_8 rfl rfl ?_
  refine sx_puti C p_Se_56 (by decide) rfl d_Se_leastSum_9 ?_
  refine sx_aload_n C 0 d_Se_leastSum_12 rfl rfl ?_
  refine sx_callV (n := 71) (As := []) (st := []) C (ct_Se_reckonLeastRest _ _ _ _ (mW_sv hV hW)) rfl (by decide) rfl (cv_Se_107 E C _ (by rw [Rr.2.2]; decide)) (Nat.le_of_ble_eq_true rfl) d_Se_leastSum_13 (by rw [Rr.2.2]; decide) (by decide) rfl rfl rfl (fun r13 G13 M13 hpo _ => ?_)
  obtain ⟨e1, b13, rfl, f13, k13, hb13⟩ := hpo
  rw [e1]
  show sx_X SC E (0, 0) GL M13 16 [(0, sx_A (17)), (1, sx_I (((W : Nat) : Int)))] [sx_I (b13)]
  refine sx_if_eq C 48 ⟨by omega, by omega⟩ d_Se_leastSum_16 (by decide) (fun c16 => ?_) (fun c16 => ?_)
  · refine sx_aload_n C 0 d_Se_leastSum_48 rfl rfl ?_
    refine sx_getl C f_Se_52 (by decide) rfl d_Se_leastSum_49 ?_
    refine sx_lreturn C Rr rfl d_Se_leastSum_52 ?_
    rcases hb13 with ⟨q1, q2⟩ | ⟨q1, q2⟩
    · exact absurd q1 (by omega)
    · exact ⟨rfl, _, rfl, rfl, ls_no hV hW f13 k13 q2⟩
  · have hrl : rlI (mW M W) M13 0 := by
      rcases hb13 with ⟨q1, q2⟩ | ⟨q1, q2⟩
      · exact q2
      · omega
    refine sx_aload_n C 0 d_Se_leastSum_19 rfl rfl ?_
    refine sx_getr C f_Se_22 19 (by decide) rfl rfl d_Se_leastSum_20 ?_
    refine sx_iconst C d_Se_leastSum_23 ?_
    refine sx_aload_n C 0 d_Se_leastSum_24 rfl rfl ?_
    refine sx_getr C f_Se_40 30 (by decide) rfl rfl d_Se_leastSum_25 ?_
    refine sx_iconst C d_Se_leastSum_28 ?_
    refine sx_iconst C d_Se_leastSum_29 ?_
    refine sx_copyL (sp := 0) (dp := 0) (n := 5) C (by decide) rfl (by decide) rfl rfl rfl rfl rfl (by decide) (by decide) (by decide) (by decide) (tb_ 343 (by decide +kernel) rfl) (tb_ 345 (by decide +kernel) rfl) (tb_ 344 (by decide +kernel) rfl) (tb_ 10 (by decide +kernel) rfl) (by rw [Rr.2.2]; decide) (by rw [Rr.2.2]; decide) d_Se_leastSum_30 ?_
    refine sx_aload_n C 0 d_Se_leastSum_33 rfl rfl ?_
    refine sx_getr C f_Se_43 31 (by decide) rfl rfl d_Se_leastSum_34 ?_
    refine sx_iconst C d_Se_leastSum_37 ?_
    refine sx_callS (n := 71) (As := [sx_A (31), sx_I (-1)]) (st := []) C (ct_Ar_fill_ints _ _ _ (sx_cpy M13 19 30 0 0 5) 31 6 (-1) (by decide) rfl (by decide)) (cv_Se_117 E C _ (by rw [Rr.2.2]; decide)) (Nat.le_of_ble_eq_true rfl) d_Se_leastSum_38 (by rw [Rr.2.2]; decide) (by decide) rfl rfl rfl (fun r38 G38 M38 hpo _ => ?_)
    obtain ⟨e1, e2, rfl⟩ := hpo
    rw [e1, e2]
    show sx_X SC E (0, 0) GL (m3 M13) 41 [(0, sx_A (17)), (1, sx_I (((W : Nat) : Int)))] []
    refine sx_aload_n C 0 d_Se_leastSum_41 rfl rfl ?_
    refine sx_iconst C d_Se_leastSum_42 ?_
    refine sx_iconst C d_Se_leastSum_43 ?_
    refine sx_lconst C 0 rfl d_Se_leastSum_44 ?_
    refine sx_callV (n := 71) (As := [sx_I (0), sx_I (0), sx_J (0)]) (st := []) C (ct_Se_give 6 _ _ _ (m3 M13) 0 0 0 (ls_pre (mW_sv hV hW) (fun p hp => by rw [mW_ne (by decide)]; exact hR p hp) hrl) (by unfold dN; rw [m3_ne (by decide) (by decide), f13 17 (by decide), mW_17 (by decide) (by decide)]; omega)) rfl (by decide) rfl (cv_Se_123 E C _ (by rw [Rr.2.2]; decide)) (Nat.le_of_ble_eq_true rfl) d_Se_leastSum_45 (by rw [Rr.2.2]; decide) (by decide) rfl rfl rfl (fun r45 G45 M45 hpo _ => ?_)
    obtain ⟨e1, rfl, h45⟩ := hpo
    rw [e1]
    show sx_X SC E (0, 0) GL M45 48 [(0, sx_A (17)), (1, sx_I (((W : Nat) : Int)))] []
    refine sx_aload_n C 0 d_Se_leastSum_48 rfl rfl ?_
    refine sx_getl C f_Se_52 (by decide) rfl d_Se_leastSum_49 ?_
    refine sx_lreturn C Rr rfl d_Se_leastSum_52 ?_
    exact ⟨rfl, _, rfl, rfl, ls_yes hV hW hrl h45⟩
theorem sv_f1 {M : sx_M0} {x : Int} (hV : sv M) (hx : x = 0 ∨ x = 1) : sv (sx_up M 17 13 x) := by
  unfold sv at hV ⊢
  rw [sx_up_at, sx_up_slot (b := 0) (by decide), sx_up_slot (b := 1) (by decide), sx_up_slot (b := 11) (by decide), sx_up_slot (b := 12) (by decide), sx_up_ne (a := 18) (by decide), sx_up_ne (a := 27) (by decide), sx_up_ne (a := 29) (by decide)]
  refine ⟨hV.1, hV.2.1, hV.2.2.1, fun d p hd hp => ?_, hV.2.2.2.2.1, hV.2.2.2.2.2.1, hx, hV.2.2.2.2.2.2.2.1, hV.2.2.2.2.2.2.2.2⟩
  rw [sx_up_ne (by omega)]
  exact hV.2.2.2.1 d p hd hp
theorem jW_f1 {M : sx_M0} {x : Int} {W : Nat} : jW (sx_up M 17 13 x) W = jW M W := by
  unfold jW
  rw [sx_up_slot (b := 0) (by decide), sx_up_slot (b := 1) (by decide), sx_up_ne (a := 18) (by decide), sx_up_ne (a := 27) (by decide)]
  have e : (fun d p => if d < 6 then sx_up M 17 13 x (20 + 1 + d) p else 0) = (fun d p => if d < 6 then M (20 + 1 + d) p else 0) := by
    funext d p
    by_cases hd : d < 6
    · rw [if_pos hd, if_pos hd, sx_up_ne (by omega)]
    · rw [if_neg hd, if_neg hd]
  rw [e]
def hpF (M M' : sx_M0) : Prop := (∀ a, a ≠ 17 → a ≠ 29 → a ≠ 30 → a ≠ 31 → a ≠ 32 → M' a = M a) ∧ (∀ b, b ≠ 11 → b ≠ 12 → M' 17 b = M 17 b)
theorem hp_F {M M1 : sx_M0} (h0 : M 17 13 = 0) (h : lsF (sx_up M 17 13 1) M1) : hpF M (sx_up M1 17 13 0) := by
  refine ⟨fun a h1 h2 h3 h4 h5 => by rw [sx_up_ne h1, h.1 a h1 h2 h3 h4 h5, sx_up_ne h1], fun b h1 h2 => ?_⟩
  by_cases e : b = 13
  · subst e
    rw [sx_up_at, h0]
  · rw [sx_up_slot e, h.2 b h1 h2, sx_up_slot e]
set_option maxRecDepth 100000 in
set_option maxHeartbeats 4000000 in
theorem ct_Se_hasPlan (l : Launch) (D : va_G) (tc : Nat → ClassId) (M : sx_M0) (hV : sv M) (h0 : M 17 13 = 0) (hR : ∀ p, p < 5 → 0 ≤ M 19 p ∧ M 19 p ≤ 1000) : sx_Met SC l D tc y_Se_hasPlan w_Se_hasPlan (rmk 25 950) [sx_A (17)] GL M (fun r G' M' => G' = GL ∧ hpF M M' ∧ sv M' ∧ bz (∃ g, CP (jW M 31) (jW M 31).1 0 0 (M 19) g) r) := by
  refine sx_enter (by decide) rfl (Nat.le_of_ble_eq_true rfl) (Ts := g_tbl) (fun _ h => List.mem_cons_of_mem _ h) (fun E C Rr hnm hnL => ?_)
  refine sx_aload_n C 0 d_Se_hasPlan_0 rfl rfl ?_
  refine sx_iconst C d_Se_hasPlan_1 ?_
  refine sx_putz C p_Se_59 (by omega) (by decide) rfl d_Se_hasPlan_2 ?_
  refine sx_aload_n C 0 d_Se_hasPlan_5 rfl rfl ?_
  refine sx_bipush C d_Se_hasPlan_6 (by decide) ?_
  refine sx_callV (n := 71) (As := [sx_I (31)]) (st := []) C (ct_Se_leastSum _ _ _ _ (sv_f1 hV (Or.inr rfl)) 31 (by decide) (fun p hp => by rw [sx_up_ne (by decide)]; exact hR p hp)) rfl (by decide) rfl (cv_Se_127 E C _ (by rw [Rr.2.2]; decide)) (Nat.le_of_ble_eq_true rfl) d_Se_hasPlan_8 (by rw [Rr.2.2]; decide) (by decide) rfl rfl rfl (fun r8 G8 M8 hpo _ => ?_)
  obtain ⟨e1, x, rfl, q2, q3, q4, q5⟩ := hpo
  rw [e1]
  rw [jW_f1, sx_up_ne (by decide), sx_up_at] at q5
  have q6 := q4.2.2.2.2.2.2.2.2
  show sx_X SC E (0, 0) GL M8 11 [(0, sx_A (17))] [sx_J (x)]
  refine sx_lstore_n (lv' := [(1, sx_J (x)), (0, sx_A (17))]) C d_Se_hasPlan_11 rfl (by rw [hnL]; decide) rfl ?_
  refine sx_aload_n C 1 d_Se_hasPlan_12 rfl rfl ?_
  refine sx_iconst C d_Se_hasPlan_13 ?_
  refine sx_putz C p_Se_59 (by omega) (by decide) rfl d_Se_hasPlan_14 ?_
  refine sx_lload_n C 0 d_Se_hasPlan_17 rfl rfl ?_
  refine sx_ldc2 (v := (-1)) C (-1) (tb_ 95 (by decide +kernel) rfl) (by decide) d_Se_hasPlan_18 ?_
  refine sx_lcmp_eq C 29 ⟨by omega, by omega⟩ ⟨by omega, by omega⟩ d_Se_hasPlan_21 d_Se_hasPlan_22 (by decide) (fun c22 => ?_) (fun c22 => ?_)
  · refine sx_iconst C d_Se_hasPlan_29 ?_
    refine sx_zreturn C Rr (by omega) rfl d_Se_hasPlan_30 ?_
    exact ⟨rfl, hp_F h0 q3, sv_f1 q4 (Or.inl rfl), 0, rfl, Or.inr ⟨rfl, by rintro ⟨g, hg⟩; rcases q5 with ⟨-, z⟩ | ⟨g0, -, z, -⟩; exact z g hg; omega⟩⟩
  · refine sx_iconst C d_Se_hasPlan_25 ?_
    refine sx_goto C 30 d_Se_hasPlan_26 (by decide) ?_
    refine sx_zreturn C Rr (by omega) rfl d_Se_hasPlan_30 ?_
    exact ⟨rfl, hp_F h0 q3, sv_f1 q4 (Or.inl rfl), 1, rfl, Or.inl ⟨rfl, by rcases q5 with ⟨z, -⟩ | ⟨g, z, -⟩; exact absurd z c22; exact ⟨g, z⟩⟩⟩
