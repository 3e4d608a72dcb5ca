/-- what a call that only looks may change: the cells that a search writes on -/
def sc (M M' : sx_M0) : Prop := (∀ a, (a < 17 ∨ (33 ≤ a ∧ a < 39) ∨ 53 ≤ a) → M' a = M a) ∧ sv M' ∧ M' 17 13 = 0 ∧ (∀ p, p < 5 → 0 ≤ M' 19 p ∧ M' 19 p ≤ 1000)
theorem hv_sc {M M' : sx_M0} (h : ∀ a, (a < 17 ∨ (33 ≤ a ∧ a < 39) ∨ 53 ≤ a) → M' a = M a) (hH : hv M) : hv M' := by
  unfold hv at hH ⊢
  rw [h 33 (by omega), h 34 (by omega), h 35 (by omega), h 36 (by omega), h 37 (by omega), h 38 (by omega), h 0 (by omega)]
  exact hH
theorem ci_sc {M M' : sx_M0} (hI : ci M) (h : sc M M') : ci M' := ⟨tw_fr (fun a ha => h.1 a (by omega)) hI.1, h.2.1, hv_sc h.1 hI.2.2.1, h.2.2.1, h.2.2.2⟩
theorem sc_refl {M : sx_M0} (hI : ci M) : sc M M := ⟨fun _ _ => rfl, hI.2.1, hI.2.2.2.1, hI.2.2.2.2⟩
theorem sc_tr {M M1 M2 : sx_M0} (h : sc M M1) (h2 : sc M1 M2) : sc M M2 := ⟨fun a ha => (h2.1 a ha).trans (h.1 a ha), h2.2⟩
theorem sc_ld {M : sx_M0} (hI : ci M) (f : Int) : sc M (ldM M f) := by
  have g0 := hI.1.2.1
  refine ⟨fun a ha => ldM_ne hI.1 (by omega), ldM_sv hI.1 hI.2.1, ?_, fun p hp => ?_⟩
  · rw [ldM_17 hI.1, la_17 (by decide) (by decide)]
    exact hI.2.2.2.1
  · rw [ldM_19]
    by_cases e : p < (M 1 1).toNat
    · rw [if_pos e]
      unfold rmS
      have := hI.1.2.2.2.2.2.2.2.2.2.1 p hp
      split <;> omega
    · rw [if_neg e]
      exact hI.2.2.2.2 p hp
theorem sc_ls {M M' : sx_M0} (h0 : M 17 13 = 0) (hR : ∀ p, p < 5 → 0 ≤ M 19 p ∧ M 19 p ≤ 1000) (h : lsF M M') (hV : sv M') : sc M M' := by
  refine ⟨fun a ha => h.1 a (by omega) (by omega) (by omega) (by omega) (by omega), hV, by rw [h.2 13 (by decide) (by decide)]; exact h0, fun p hp => ?_⟩
  rw [h.1 19 (by decide) (by decide) (by decide) (by decide) (by decide)]
  exact hR p hp
theorem sc_fF {M M' : sx_M0} (h0 : M 17 13 = 0) (hR : ∀ p, p < 5 → 0 ≤ M 19 p ∧ M 19 p ≤ 1000) (h : fF M M') : sc M M' := by
  refine ⟨fun a ha => h.1 a (by omega) (by omega) (by omega) (by omega) (by omega) (by omega), h.2.2.1, by rw [h.2.1 13 (by decide) (by decide)]; exact h0, fun p hp => ?_⟩
  rw [h.1 19 (by decide) (by decide) (by decide) (by decide) (by decide) (by decide)]
  exact hR p hp
theorem sc_fY {M M' : sx_M0} (h0 : M 17 13 = 0) (hR : ∀ p, p < 5 → 0 ≤ M 19 p ∧ M 19 p ≤ 1000) (h : fY M M') : sc M M' := by
  refine ⟨fun a ha => h.1 a (by omega) (by omega) (by omega) (by omega) (by omega) (by omega) (by omega), h.2.2.1, by rw [h.2.1 13 (by decide) (by decide)]; exact h0, fun p hp => ?_⟩
  rw [h.1 19 (by decide) (by decide) (by decide) (by decide) (by decide) (by decide) (by decide)]
  exact hR p hp
theorem sc_hi {M M' : sx_M0} (hV : sv M) (h0 : M 17 13 = 0) (hR : ∀ p, p < 5 → 0 ≤ M 19 p ∧ M 19 p ≤ 1000) (h : ∀ a, (a < 39 ∨ 53 ≤ a) → M' a = M a) : sc M M' := by
  have e17 := h 17 (by decide)
  refine ⟨fun a ha => h a (by omega), ?_, by rw [e17]; exact h0, fun p hp => by rw [h 19 (by decide)]; exact hR p hp⟩
  unfold sv at hV ⊢
  rw [e17, h 18 (by decide), h 27 (by decide), h 29 (by decide)]
  refine ⟨hV.1, hV.2.1, hV.2.2.1, fun d p hd hp => ?_, hV.2.2.2.2⟩
  rw [h (20 + 1 + d) (by omega)]
  exact hV.2.2.2.1 d p hd hp
abbrev nS (M : sx_M0) : Nat := 2 ^ (M 1 1).toNat
theorem pow_6 : ∀ p, p < 6 → 2 ^ p ≤ 32 ∧ 1 ≤ 2 ^ p := by decide
theorem c28_bd {M : sx_M0} (hI : ci M) {M1 : sx_M0} (e : M1 28 = ldM M (-1) 28) : ∀ s, s < nS M → 0 ≤ M1 28 s ∧ M1 28 s ≤ 5000000 := fun s hs => by
  rw [e, ldM_28 hI.1 hs]
  have := cs_bd (n := 5) hI.1 (f := -1) (s := s) (by omega)
  omega
/-- what a look over the years finds and holds -/
def loP (M M' : sx_M0) (k : Nat) (x : Int) : Prop := ∃ M1 M2, rsO (ldM M (-1)) M1 (nS M) k ∧ roI M1 M2 k (nS M) 0 ∧ ∃ q le, chP (M2 (46 + 1 + 0)) (M2 28) 0 (nS M) q le ∧ ((q = -1 ∧ x = -1 ∧ M' = M2) ∨ (q ≠ -1 ∧ x = le ∧ ∃ b, hdI M2 M' k (nS M) k b))
set_option maxRecDepth 100000 in
set_option maxHeartbeats 4000000 in
theorem ct_Ca_lookOver (l : Launch) (D : va_G) (tc : Nat → ClassId) (M : sx_M0) (hI : ci M) (k : Nat) (hk1 : 0 < k) (hk6 : k ≤ 6) : sx_Met SC l D tc y_Ca_lookOver w_Ca_lookOver (rmk 26 1000) [sx_A (37), sx_I (((k : Nat) : Int)), sx_A (1), sx_A (17)] GL M (fun r G' M' => G' = GL ∧ ∃ x : Int, r = some (sx_J x) ∧ loP M M' k x) := by
  refine sx_enter (by decide) rfl (Nat.le_of_ble_eq_true rfl) (Ts := g_tbl) (fun _ h => List.mem_cons_of_mem _ h) (fun E C Rr hnm hnL => ?_)
  have hT := hI.1
  have g1 := hT.2.1
  have hp6 := pow_6 (M 1 1).toNat (by omega)
  refine sx_aload_n C 3 d_Ca_lookOver_0 rfl rfl ?_
  refine sx_aload_n C 2 d_Ca_lookOver_1 rfl rfl ?_
  refine sx_iconst C d_Ca_lookOver_2 ?_
  have hIL : ci (ldM M (-1)) := ci_sc hI (sc_ld hI (-1))
  refine sx_callV (n := 71) (As := [sx_A (1), sx_I (-1)]) (st := []) C (ct_Se_load _ _ _ M hT (-1) ⟨by decide, by decide⟩) rfl (by decide) rfl (cv_Ca_27 E C _ (by rw [Rr.2.2]; decide)) (Nat.le_of_ble_eq_true rfl) d_Ca_lookOver_3 (by rw [Rr.2.2]; decide) (by decide) rfl rfl rfl (fun r3 G3 M3 hpo _ => ?_)
  obtain ⟨e1, e2, rfl⟩ := hpo
  rw [e1, e2]
  show sx_X SC E (0, 0) GL (ldM M (-1)) 6 [(0, sx_A (37)), (1, sx_I (((k : Nat) : Int))), (2, sx_A (1)), (3, sx_A (17))] []
  refine sx_iconst C d_Ca_lookOver_6 ?_
  refine sx_aload_n C 2 d_Ca_lookOver_7 rfl rfl ?_
  refine sx_geti C f_Ca_33 (by decide) rfl d_Ca_lookOver_8 ?_
  rw [show ldM M (-1) 1 1 = ((((M 1 1).toNat : Nat)) : Int) from by rw [ldM_ne hT (by decide)]; omega]
  refine sx_ishl C d_Ca_lookOver_11 ?_
  rw [shl_bit (M 1 1).toNat (by omega)]
  refine sx_istore (lv' := [(4, sx_I ((((2 ^ (M 1 1).toNat) : Nat) : Int))), (0, sx_A (37)), (1, sx_I (((k : Nat) : Int))), (2, sx_A (1)), (3, sx_A (17))]) C d_Ca_lookOver_12 (by rw [hnL]; decide) rfl ?_
  refine sx_aload_n C 1 d_Ca_lookOver_14 rfl rfl ?_
  refine sx_iload_n C 2 d_Ca_lookOver_15 rfl rfl ?_
  refine sx_iload C 0 d_Ca_lookOver_16 rfl ?_
  refine sx_aload_n C 3 d_Ca_lookOver_18 rfl rfl ?_
  refine sx_aload_n C 4 d_Ca_lookOver_19 rfl rfl ?_
  refine sx_callV (n := 71) (As := [sx_I (((k : Nat) : Int)), sx_I ((((2 ^ (M 1 1).toNat) : Nat) : Int)), sx_A (1), sx_A (17)]) (st := []) C (ct_Ca_reckonSums _ _ _ (ldM M (-1)) hIL.1 hIL.2.1 hIL.2.2.2.2 hIL.2.2.2.1 k (2 ^ (M 1 1).toNat) hk6 hp6.1) rfl (by decide) rfl (cv_Ca_38 E C _ (by rw [Rr.2.2]; decide)) (Nat.le_of_ble_eq_true rfl) d_Ca_lookOver_20 (by rw [Rr.2.2]; decide) (by decide) rfl rfl rfl (fun r20 G20 M20 hpo _ => ?_)
  obtain ⟨e1, rfl, r20⟩ := hpo
  rw [e1]
  have e28 : M20 28 = ldM M (-1) 28 := r20.1.1 28 (by decide) (by decide) (by decide) (by decide) (by decide) (by decide) (Or.inl (by decide))
  have hc20 := c28_bd hI e28
  show sx_X SC E (0, 0) GL M20 23 [(4, sx_I ((((2 ^ (M 1 1).toNat) : Nat) : Int))), (0, sx_A (37)), (1, sx_I (((k : Nat) : Int))), (2, sx_A (1)), (3, sx_A (17))] []
  refine sx_aload_n C 1 d_Ca_lookOver_23 rfl rfl ?_
  refine sx_iload_n C 2 d_Ca_lookOver_24 rfl rfl ?_
  refine sx_iload C 0 d_Ca_lookOver_25 rfl ?_
  refine sx_aload_n C 4 d_Ca_lookOver_27 rfl rfl ?_
  refine sx_callV (n := 71) (As := [sx_I (((k : Nat) : Int)), sx_I ((((2 ^ (M 1 1).toNat) : Nat) : Int)), sx_A (17)]) (st := []) C (ct_Ca_reckonOnward _ _ _ M20 k (2 ^ (M 1 1).toNat) hk6 hp6.1 (fun y s h1 h2 => (r20.2 y s h1 h2).1) hc20) rfl (by decide) rfl (cv_Ca_42 E C _ (by rw [Rr.2.2]; decide)) (Nat.le_of_ble_eq_true rfl) d_Ca_lookOver_28 (by rw [Rr.2.2]; decide) (by decide) rfl rfl rfl (fun r28 G28 M28 hpo _ => ?_)
  obtain ⟨e1, rfl, r28⟩ := hpo
  rw [e1]
  have hc28 : ∀ s, s < 2 ^ (M 1 1).toNat → 0 ≤ M28 28 s ∧ M28 28 s ≤ 10000000000 := fun s hs => by rw [r28.1 28 (by decide)]; have := hc20 s hs; omega
  have hO28 : ∀ y s, y < k → s < 2 ^ (M 1 1).toNat → -1 ≤ M28 (46 + 1 + y) s ∧ M28 (46 + 1 + y) s ≤ 10000000000 := fun y s h1 h2 => by have := (r28.2 y s (Nat.zero_le y) h1 h2).2; unfold roB at this; omega
  show sx_X SC E (0, 0) GL M28 31 [(4, sx_I ((((2 ^ (M 1 1).toNat) : Nat) : Int))), (0, sx_A (37)), (1, sx_I (((k : Nat) : Int))), (2, sx_A (1)), (3, sx_A (17))] []
  refine sx_aload_n C 1 d_Ca_lookOver_31 rfl rfl ?_
  refine sx_iconst C d_Ca_lookOver_32 ?_
  refine sx_iconst C d_Ca_lookOver_33 ?_
  refine sx_iload C 0 d_Ca_lookOver_34 rfl ?_
  refine sx_aload_n C 4 d_Ca_lookOver_36 rfl rfl ?_
  refine sx_callV (n := 71) (As := [sx_I (0), sx_I (0), sx_I ((((2 ^ (M 1 1).toNat) : Nat) : Int)), sx_A (17)]) (st := []) C (ct_Ca_cheapestNext _ _ _ M28 0 0 (2 ^ (M 1 1).toNat) (by decide) (by decide) hp6.1 (fun s hs => hO28 0 s hk1 hs) hc28) rfl (by decide) rfl (cv_Ca_46 E C _ (by rw [Rr.2.2]; decide)) (Nat.le_of_ble_eq_true rfl) d_Ca_lookOver_37 (by rw [Rr.2.2]; decide) (by decide) rfl rfl rfl (fun r37 G37 M37 hpo _ => ?_)
  obtain ⟨e1, e2, q37, le37, rfl, hch37⟩ := hpo
  rw [e1, e2]
  have hb37 := ch_bd (fun s hs => hO28 0 s hk1 hs) hc28 hch37
  show sx_X SC E (0, 0) GL M28 40 [(4, sx_I ((((2 ^ (M 1 1).toNat) : Nat) : Int))), (0, sx_A (37)), (1, sx_I (((k : Nat) : Int))), (2, sx_A (1)), (3, sx_A (17))] [sx_I (q37)]
  refine sx_istore (lv' := [(5, sx_I (q37)), (4, sx_I ((((2 ^ (M 1 1).toNat) : Nat) : Int))), (0, sx_A (37)), (1, sx_I (((k : Nat) : Int))), (2, sx_A (1)), (3, sx_A (17))]) C d_Ca_lookOver_40 (by rw [hnL]; decide) rfl ?_
  refine sx_iload C 0 d_Ca_lookOver_42 rfl ?_
  refine sx_iconst C d_Ca_lookOver_44 ?_
  refine sx_icmp_ne C 52 ⟨by omega, by omega⟩ ⟨by omega, by omega⟩ d_Ca_lookOver_45 (by decide) (fun c45 => ?_) (fun c45 => ?_)
  · have hch := hch37
    rcases hch with ⟨z1, z2⟩ | ⟨t, z1, z2, z3, z4, z5⟩
    · exact absurd z1 c45
    rw [z2]
    refine sx_aload_n C 2 d_Ca_lookOver_52 rfl rfl ?_
    refine sx_iload_n C 3 d_Ca_lookOver_53 rfl rfl ?_
    refine sx_iload C 1 d_Ca_lookOver_54 rfl ?_
    refine sx_aload_n C 5 d_Ca_lookOver_56 rfl rfl ?_
    have hH28 : hv M28 := hv_sc (fun a ha => by rw [r28.1 a (by omega), r20.1.1 a (by omega) (by omega) (by omega) (by omega) (by omega) (by omega) (by omega)]; exact ldM_ne hT (by omega)) hI.2.2.1
    refine sx_callV (n := 71) (As := [sx_I (((k : Nat) : Int)), sx_I ((((2 ^ (M 1 1).toNat) : Nat) : Int)), sx_A (17)]) (st := []) C (ct_Ca_hold _ _ _ M28 hH28 k (2 ^ (M 1 1).toNat) hk6 hp6.1 (by omega) hO28 hc28 (fun _ => ⟨t, z1, z3⟩) (fun y s h1 h2 h3 => by
      rcases (r28.2 y s (Nat.zero_le y) (by omega) h2).1 with ⟨w1, w2⟩ | ⟨w1, w2, q, le, w3, w4⟩
      · exfalso; rcases w1 with w1 | w1; (omega); exact h3 (w2.trans w1)
      · rcases w4 with ⟨w4, w5⟩ | ⟨w4, w5⟩
        · exact absurd w5 h3
        · rcases w3 with ⟨w6, _⟩ | ⟨t2, w6, _, w7, _⟩
          · exact absurd w6 w4
          · exact ⟨t2, w6, w7⟩)) rfl (by decide) rfl (cv_Ca_52 E C _ (by rw [Rr.2.2]; decide)) (Nat.le_of_ble_eq_true rfl) d_Ca_lookOver_57 (by rw [Rr.2.2]; decide) (by decide) rfl rfl rfl (fun r57 G57 M57 hpo _ => ?_)
    obtain ⟨e1, rfl, b57, h57⟩ := hpo
    rw [e1]
    show sx_X SC E (0, 0) GL M57 60 [(5, sx_I (((t : Nat) : Int))), (4, sx_I ((((2 ^ (M 1 1).toNat) : Nat) : Int))), (0, sx_A (37)), (1, sx_I (((k : Nat) : Int))), (2, sx_A (1)), (3, sx_A (17))] []
    refine sx_aload_n C 5 d_Ca_lookOver_60 rfl rfl ?_
    refine sx_getr C f_Ca_55 28 (by decide) rfl rfl d_Ca_lookOver_61 ?_
    refine sx_iload C 0 d_Ca_lookOver_64 rfl ?_
    refine sx_laload C t (by decide) rfl rfl rfl (by omega) (by decide) d_Ca_lookOver_66 ?_
    refine sx_aload_n C 2 d_Ca_lookOver_67 rfl rfl ?_
    refine sx_getr C f_Ca_24 46 (by decide) rfl rfl d_Ca_lookOver_68 ?_
    refine sx_iconst C d_Ca_lookOver_71 ?_
    refine sx_aaload C 0 (46 + 1 + 0) (by decide) rfl rfl rfl (by decide) (by decide) rfl d_Ca_lookOver_72 ?_
    refine sx_iload C 0 d_Ca_lookOver_73 rfl ?_
    refine sx_laload C t (by show (46 + 1 + 0) < 71; omega) (gl_46 _ (by omega)) rfl rfl (by omega) (by decide) d_Ca_lookOver_75 ?_
    refine sx_ladd C d_Ca_lookOver_76 ?_
    refine sx_lreturn C Rr rfl d_Ca_lookOver_77 ?_
    exact ⟨rfl, _, rfl, M20, M28, r20, r28, q37, le37, hch37, Or.inr ⟨c45, by rw [z4, df_0 t (by omega), h57.1 28 (by decide) (by decide), h57.1 (46 + 1 + 0) (by decide) (by decide)], b57, h57⟩⟩
  · refine sx_ldc2 (v := (-1)) C (-1) (tb_ 493 (by decide +kernel) rfl) (by decide) d_Ca_lookOver_48 ?_
    refine sx_lreturn C Rr rfl d_Ca_lookOver_51 ?_
    exact ⟨rfl, -1, rfl, M20, M28, r20, r28, q37, le37, hch37, Or.inl ⟨by omega, rfl, rfl⟩⟩
theorem lo_bd {M M' : sx_M0} {k : Nat} {x : Int} (hI : ci M) (hk1 : 0 < k) (hk6 : k ≤ 6) (h : loP M M' k x) : -1 ≤ x ∧ x ≤ 1300000000 := by
  obtain ⟨M1, M2, h1, h2, q, le, h3, h4⟩ := h
  rcases h4 with ⟨_, h4, _⟩ | ⟨h5, h4, _⟩
  · omega
  · rcases h3 with ⟨z1, _⟩ | ⟨t, z1, z2, z3, z4, z5⟩
    · exact absurd z1 h5
    · have q1 := (h2.2 0 t (Nat.le_refl 0) hk1 z1).2
      unfold roB at q1
      have q2 := c28_bd hI (show M2 28 = ldM M (-1) 28 from (h2.1 28 (by decide)).trans (h1.1.1 28 (by decide) (by decide) (by decide) (by decide) (by decide) (by decide) (Or.inl (by decide)))) (df t 0) (by have := df_le t 0; omega)
      omega
theorem lo_ci {M M' : sx_M0} {k : Nat} {x : Int} (hI : ci M) (hk6 : k ≤ 6) (h : loP M M' k x) : ci M' ∧ (∀ a, a < 17 ∨ (33 ≤ a ∧ a < 37) ∨ 53 ≤ a → M' a = M a) := by
  obtain ⟨M1, M2, h1, h2, q, le, h3, h4⟩ := h
  have hIL : ci (ldM M (-1)) := ci_sc hI (sc_ld hI (-1))
  have s1 : sc M M1 := sc_tr (sc_ld hI (-1)) (sc_fY hIL.2.2.2.1 hIL.2.2.2.2 h1.1)
  have hI1 := ci_sc hI s1
  have s2 : sc M M2 := sc_tr s1 (sc_hi hI1.2.1 hI1.2.2.2.1 hI1.2.2.2.2 (fun a ha => h2.1 a (by omega)))
  have hI2 := ci_sc hI s2
  rcases h4 with ⟨_, _, h4⟩ | ⟨h5, h4, b, h6⟩
  · subst h4
    exact ⟨hI2, fun a ha => s2.1 a (by omega)⟩
  · have f := h6.1
    refine ⟨⟨tw_fr (fun a ha => f a (by omega) (by omega)) hI2.1, ?_, ?_, ?_, ?_⟩, fun a ha => (f a (by omega) (by omega)).trans (s2.1 a (by omega))⟩
    · have hV := hI2.2.1
      unfold sv at hV ⊢
      rw [f 17 (by decide) (by decide), f 18 (by decide) (by decide), f 27 (by decide) (by decide), f 29 (by decide) (by decide)]
      refine ⟨hV.1, hV.2.1, hV.2.2.1, fun d p hd hp => ?_, hV.2.2.2.2⟩
      rw [f (20 + 1 + d) (by omega) (by omega)]
      exact hV.2.2.2.1 d p hd hp
    · have hH := hI2.2.2.1
      unfold hv at hH ⊢
      rw [f 33 (by decide) (by decide), f 34 (by decide) (by decide), f 35 (by decide) (by decide), f 36 (by decide) (by decide), f 0 (by decide) (by decide), h6.2.1]
      exact ⟨hH.1, hH.2.1, hH.2.2.1, hH.2.2.2.1, hH.2.2.2.2.1, ⟨by omega, by omega⟩, h6.2.2.1, hH.2.2.2.2.2.2.2⟩
    · rw [f 17 (by decide) (by decide)]; exact hI2.2.2.2.1
    · rw [f 19 (by decide) (by decide)]; exact hI2.2.2.2.2
set_option maxRecDepth 100000 in
set_option maxHeartbeats 4000000 in
theorem ct_Si_years (l : Launch) (D : va_G) (tc : Nat → ClassId) (M : sx_M0) (hI : ci M) (k : Int) (hk : sx_r32 k) : sx_Met SC l D tc y_Si_years w_Si_years (rmk 27 1050) [sx_A (0), sx_I (k)] GL M (fun r G' M' => G' = GL ∧ ∃ x : Int, r = some (sx_I x) ∧ (-1 ≤ x ∧ x ≤ 1300000000) ∧ ((1 ≤ k ∧ k ≤ 6 ∧ loP M M' k.toNat x) ∨ (¬ (1 ≤ k ∧ k ≤ 6) ∧ x = -1 ∧ M' = M))) := by
  refine sx_enter (by decide) rfl (Nat.le_of_ble_eq_true rfl) (Ts := g_tbl) (fun _ h => List.mem_cons_of_mem _ h) (fun E C Rr hnm hnL => ?_)
  refine sx_iload_n C 1 d_Si_years_0 rfl rfl ?_
  refine sx_i2l C ⟨by omega, by omega⟩ d_Si_years_1 ?_
  refine sx_lconst C 1 rfl d_Si_years_2 ?_
  refine sx_ldc2 (v := (6)) C (6) (tb_ 481 (by decide +kernel) rfl) (by decide) d_Si_years_3 ?_
  refine sx_callS (n := 71) (As := [sx_J (k), sx_J (1), sx_J (6)]) (st := []) C (ct_Si_isWithin _ _ _ M k 1 6 (by constructor <;> omega) (by constructor <;> omega) (by constructor <;> omega)) (cv_Si_54 E C _ (by rw [Rr.2.2]; decide)) (Nat.le_of_ble_eq_true rfl) d_Si_years_6 (by rw [Rr.2.2]; decide) (by decide) rfl rfl rfl (fun r6 G6 M6 hpo _ => ?_)
  obtain ⟨e1, e2, b6, rfl, hb6⟩ := hpo
  rw [e1, e2]
  show sx_X SC E (0, 0) GL M 9 [(0, sx_A (0)), (1, sx_I (k))] [sx_I (b6)]
  refine sx_if_ne C 14 ⟨by omega, by omega⟩ d_Si_years_9 (by decide) (fun c9 => ?_) (fun c9 => ?_)
  · have kk : k = ((k.toNat : Nat) : Int) := by omega
    rw [show sx_I k = sx_I ((k.toNat : Nat) : Int) by rw [← kk]]
    refine sx_aload_n C 0 d_Si_years_14 rfl rfl ?_
    refine sx_getr C f_Si_40 37 (by decide) rfl rfl d_Si_years_15 ?_
    refine sx_iload_n C 1 d_Si_years_18 rfl rfl ?_
    refine sx_aload_n C 0 d_Si_years_19 rfl rfl ?_
    refine sx_getr C f_Si_12 1 (by decide) rfl rfl d_Si_years_20 ?_
    refine sx_aload_n C 0 d_Si_years_23 rfl rfl ?_
    refine sx_getr C f_Si_19 17 (by decide) rfl rfl d_Si_years_24 ?_
    refine sx_callV (n := 71) (As := [sx_I (((k.toNat : Nat) : Int)), sx_A (1), sx_A (17)]) (st := []) C (ct_Ca_lookOver _ _ _ M hI k.toNat (by omega) (by omega)) rfl (by decide) rfl (cv_Si_174 E C _ (by rw [Rr.2.2]; decide)) (Nat.le_of_ble_eq_true rfl) d_Si_years_27 (by rw [Rr.2.2]; decide) (by decide) rfl rfl rfl (fun r27 G27 M27 hpo _ => ?_)
    obtain ⟨e1, x27, rfl, z27⟩ := hpo
    rw [e1]
    show sx_X SC E (0, 0) GL M27 30 [(0, sx_A (0)), (1, sx_I (((k.toNat : Nat) : Int)))] [sx_J (x27)]
    refine sx_l2i C d_Si_years_30 ?_
    refine sx_ireturn C Rr rfl d_Si_years_31 ?_
    exact ⟨rfl, x27, rfl, lo_bd hI (by omega) (by omega) z27, Or.inl ⟨by omega, by omega, z27⟩⟩
  · refine sx_iconst C d_Si_years_12 ?_
    refine sx_ireturn C Rr rfl d_Si_years_13 ?_
    exact ⟨rfl, -1, rfl, ⟨by decide, by decide⟩, Or.inr ⟨by omega, rfl, rfl⟩⟩
set_option maxRecDepth 100000 in
set_option maxHeartbeats 4000000 in
theorem ct_Si_bound (l : Launch) (D : va_G) (tc : Nat → ClassId) (M : sx_M0) (hI : ci M) : sx_Met SC l D tc y_Si_bound w_Si_bound (rmk 5 200) [sx_A (0)] GL M (fun r G' M' => G' = GL ∧ ∃ x : Int, r = some (sx_J x) ∧ sc M M' ∧ ((x = lrS (u31 (ldM M (-1))) (dN (ldM M (-1))) 0 ∧ ∀ d, d < dN (ldM M (-1)) → 0 < ldM M (-1) 18 d → nuS (u31 (ldM M (-1))) d (ldM M (-1) 17 1).toNat ≠ -1) ∨ (x = -1 ∧ ∃ d, d < dN (ldM M (-1)) ∧ 0 < ldM M (-1) 18 d ∧ nuS (u31 (ldM M (-1))) d (ldM M (-1) 17 1).toNat = -1))) := by
  refine sx_enter (by decide) rfl (Nat.le_of_ble_eq_true rfl) (Ts := g_tbl) (fun _ h => List.mem_cons_of_mem _ h) (fun E C Rr hnm hnL => ?_)
  have hT := hI.1
  refine sx_aload_n C 0 d_Si_bound_0 rfl rfl ?_
  refine sx_getr C f_Si_19 17 (by decide) rfl rfl d_Si_bound_1 ?_
  refine sx_aload_n C 0 d_Si_bound_4 rfl rfl ?_
  refine sx_getr C f_Si_12 1 (by decide) rfl rfl d_Si_bound_5 ?_
  refine sx_iconst C d_Si_bound_8 ?_
  refine sx_callV (n := 71) (As := [sx_A (1), sx_I (-1)]) (st := []) C (ct_Se_load _ _ _ M hT (-1) ⟨by decide, by decide⟩) rfl (by decide) rfl (cv_Si_117 E C _ (by rw [Rr.2.2]; decide)) (Nat.le_of_ble_eq_true rfl) d_Si_bound_9 (by rw [Rr.2.2]; decide) (by decide) rfl rfl rfl (fun r9 G9 M9 hpo _ => ?_)
  obtain ⟨e1, e2, rfl⟩ := hpo
  rw [e1, e2]
  show sx_X SC E (0, 0) GL (ldM M (-1)) 12 [(0, sx_A (0))] []
  refine sx_aload_n C 0 d_Si_bound_12 rfl rfl ?_
  refine sx_getr C f_Si_19 17 (by decide) rfl rfl d_Si_bound_13 ?_
  refine sx_callV (n := 71) (As := []) (st := []) C (ct_Se_leastThinkable _ _ _ (ldM M (-1)) (ldM_sv hT hI.2.1)) rfl (by decide) rfl (cv_Si_152 E C _ (by rw [Rr.2.2]; decide)) (Nat.le_of_ble_eq_true rfl) d_Si_bound_16 (by rw [Rr.2.2]; decide) (by decide) rfl rfl rfl (fun r16 G16 M16 hpo _ => ?_)
  obtain ⟨e1, x16, rfl, f16, s16, z16⟩ := hpo
  rw [e1]
  show sx_X SC E (0, 0) GL M16 19 [(0, sx_A (0))] [sx_J (x16)]
  refine sx_lreturn C Rr rfl d_Si_bound_19 ?_
  have hIL : ci (ldM M (-1)) := ci_sc hI (sc_ld hI (-1))
  refine ⟨rfl, x16, rfl, sc_tr (sc_ld hI (-1)) ⟨fun a ha => by rw [f16 a (by omega)]; exact sx_up_ne (by omega), s16, ?_, fun p hp => ?_⟩, z16⟩
  · rw [f16 17 (by decide)]; exact (sx_up_slot (by decide)).trans hIL.2.2.2.1
  · rw [f16 19 (by decide), show u31 (ldM M (-1)) 19 = ldM M (-1) 19 from sx_up_ne (by decide)]; exact hIL.2.2.2.2 p hp
set_option maxRecDepth 100000 in
set_option maxHeartbeats 4000000 in
theorem ct_Si_gain (l : Launch) (D : va_G) (tc : Nat → ClassId) (M : sx_M0) (hI : ci M) (p : Int) (hp : sx_r32 p) : sx_Met SC l D tc y_Si_gain w_Si_gain (rmk 25 950) [sx_A (0), sx_I (p)] GL M (fun r G' M' => G' = GL ∧ ∃ x : Int, r = some (sx_J x) ∧ sc M M' ∧ ((¬ (0 ≤ p ∧ p < M 1 1) ∧ x = -1) ∨ (0 ≤ p ∧ p < M 1 1 ∧ ∃ y bg, bstP (jW (ldM M (-1)) 31) (ldM M (-1) 19) 0 y bg ∧ ((y = -1 ∧ x = -1) ∨ (y ≠ -1 ∧ ∃ M1, sc M M1 ∧ ∃ z bz, bstP (jW (ldM M1 p) 31) (ldM M1 p 19) 0 z bz ∧ x = y - z))))) := by
  refine sx_enter (by decide) rfl (Nat.le_of_ble_eq_true rfl) (Ts := g_tbl) (fun _ h => List.mem_cons_of_mem _ h) (fun E C Rr hnm hnL => ?_)
  have hT := hI.1
  have g1 := hT.2.1
  refine sx_aload_n C 0 d_Si_gain_0 rfl rfl ?_
  refine sx_getr C f_Si_12 1 (by decide) rfl rfl d_Si_gain_1 ?_
  refine sx_iload_n C 1 d_Si_gain_4 rfl rfl ?_
  refine sx_callV (n := 71) (As := [sx_I (p)]) (st := []) C (ct_To_hasPlace _ _ _ M hT p (by constructor <;> omega)) rfl (by decide) rfl (cv_Si_79 E C _ (by rw [Rr.2.2]; decide)) (Nat.le_of_ble_eq_true rfl) d_Si_gain_5 (by rw [Rr.2.2]; decide) (by decide) rfl rfl rfl (fun r5 G5 M5 hpo _ => ?_)
  obtain ⟨e1, e2, b5, rfl, hb5⟩ := hpo
  rw [e1, e2]
  show sx_X SC E (0, 0) GL M 8 [(0, sx_A (0)), (1, sx_I (p))] [sx_I (b5)]
  refine sx_if_ne C 15 ⟨by omega, by omega⟩ d_Si_gain_8 (by decide) (fun c8 => ?_) (fun c8 => ?_)
  · have hIL : ci (ldM M (-1)) := ci_sc hI (sc_ld hI (-1))
    refine sx_aload_n C 0 d_Si_gain_15 rfl rfl ?_
    refine sx_getr C f_Si_19 17 (by decide) rfl rfl d_Si_gain_16 ?_
    refine sx_aload_n C 0 d_Si_gain_19 rfl rfl ?_
    refine sx_getr C f_Si_12 1 (by decide) rfl rfl d_Si_gain_20 ?_
    refine sx_iconst C d_Si_gain_23 ?_
    refine sx_callV (n := 71) (As := [sx_A (1), sx_I (-1)]) (st := []) C (ct_Se_load _ _ _ M hT (-1) ⟨by decide, by decide⟩) rfl (by decide) rfl (cv_Si_117 E C _ (by rw [Rr.2.2]; decide)) (Nat.le_of_ble_eq_true rfl) d_Si_gain_24 (by rw [Rr.2.2]; decide) (by decide) rfl rfl rfl (fun r24 G24 M24 hpo _ => ?_)
    obtain ⟨e1, e2, rfl⟩ := hpo
    rw [e1, e2]
    show sx_X SC E (0, 0) GL (ldM M (-1)) 27 [(0, sx_A (0)), (1, sx_I (p))] []
    refine sx_aload_n C 0 d_Si_gain_27 rfl rfl ?_
    refine sx_getr C f_Si_19 17 (by decide) rfl rfl d_Si_gain_28 ?_
    refine sx_bipush C d_Si_gain_31 (by decide) ?_
    refine sx_callV (n := 71) (As := [sx_I (31)]) (st := []) C (ct_Se_leastSum _ _ _ (ldM M (-1)) hIL.2.1 31 (by decide) hIL.2.2.2.2) rfl (by decide) rfl (cv_Si_121 E C _ (by rw [Rr.2.2]; decide)) (Nat.le_of_ble_eq_true rfl) d_Si_gain_33 (by rw [Rr.2.2]; decide) (by decide) rfl rfl rfl (fun r33 G33 M33 hpo _ => ?_)
    obtain ⟨e1, x33, rfl, w33, f33, s33, z33⟩ := hpo
    rw [e1]
    rw [hIL.2.2.2.1] at z33
    have sc33 : sc M M33 := sc_tr (sc_ld hI (-1)) (sc_ls hIL.2.2.2.1 hIL.2.2.2.2 f33 s33)
    have hI33 := ci_sc hI sc33
    have hT2 := hI33.1
    have r33 := s33.2.2.2.2.2.2.2.2
    have e11 : M33 1 = M 1 := sc33.1 1 (by decide)
    show sx_X SC E (0, 0) GL M33 36 [(0, sx_A (0)), (1, sx_I (p))] [sx_J (x33)]
    refine sx_lstore_n (lv' := [(2, sx_J (x33)), (0, sx_A (0)), (1, sx_I (p))]) C d_Si_gain_36 rfl (by rw [hnL]; decide) rfl ?_
    refine sx_lload_n C 0 d_Si_gain_37 rfl rfl ?_
    refine sx_ldc2 (v := (-1)) C (-1) (tb_ 373 (by decide +kernel) rfl) (by decide) d_Si_gain_38 ?_
    refine sx_lcmp_ne C 49 ⟨by omega, by omega⟩ ⟨by omega, by omega⟩ d_Si_gain_41 d_Si_gain_42 (by decide) (fun c42 => ?_) (fun c42 => ?_)
    · refine sx_aload_n C 1 d_Si_gain_49 rfl rfl ?_
      refine sx_getr C f_Si_19 17 (by decide) rfl rfl d_Si_gain_50 ?_
      refine sx_aload_n C 1 d_Si_gain_53 rfl rfl ?_
      refine sx_getr C f_Si_12 1 (by decide) rfl rfl d_Si_gain_54 ?_
      refine sx_iload_n C 2 d_Si_gain_57 rfl rfl ?_
      refine sx_callV (n := 71) (As := [sx_A (1), sx_I (p)]) (st := []) C (ct_Se_load _ _ _ M33 hT2 p ⟨by omega, by omega⟩) rfl (by decide) rfl (cv_Si_117 E C _ (by rw [Rr.2.2]; decide)) (Nat.le_of_ble_eq_true rfl) d_Si_gain_58 (by rw [Rr.2.2]; decide) (by decide) rfl rfl rfl (fun r58 G58 M58 hpo _ => ?_)
      obtain ⟨e1, e2, rfl⟩ := hpo
      rw [e1, e2]
      show sx_X SC E (0, 0) GL (ldM M33 p) 61 [(2, sx_J (x33)), (0, sx_A (0)), (1, sx_I (p))] []
      refine sx_lload_n C 0 d_Si_gain_61 rfl rfl ?_
      refine sx_aload_n C 1 d_Si_gain_62 rfl rfl ?_
      refine sx_getr C f_Si_19 17 (by decide) rfl rfl d_Si_gain_63 ?_
      refine sx_bipush C d_Si_gain_66 (by decide) ?_
      refine sx_callV (n := 71) (As := [sx_I (31)]) (st := [sx_J (x33)]) C (ct_Se_leastSum _ _ _ (ldM M33 p) (sc_ld hI33 p).2.1 31 (by decide) (sc_ld hI33 p).2.2.2) rfl (by decide) rfl (cv_Si_121 E C _ (by rw [Rr.2.2]; decide)) (Nat.le_of_ble_eq_true rfl) d_Si_gain_68 (by rw [Rr.2.2]; decide) (by decide) rfl rfl rfl (fun r68 G68 M68 hpo _ => ?_)
      obtain ⟨e1, x68, rfl, w68, f68, s68, z68⟩ := hpo
      rw [e1]
      rw [(sc_ld hI33 p).2.2.1] at z68
      show sx_X SC E (0, 0) GL M68 71 [(2, sx_J (x33)), (0, sx_A (0)), (1, sx_I (p))] [sx_J (x68), sx_J (x33)]
      refine sx_lsub C d_Si_gain_71 ?_
      refine sx_lreturn C Rr rfl d_Si_gain_72 ?_
      exact ⟨rfl, _, rfl, sc_tr sc33 (sc_tr (sc_ld hI33 p) (sc_ls (by exact (sc_ld hI33 p).2.2.1) (sc_ld hI33 p).2.2.2 f68 s68)), Or.inr ⟨by omega, by omega, x33, _, z33, Or.inr ⟨c42, M33, sc33, x68, _, z68, rfl⟩⟩⟩
    · refine sx_ldc2 (v := (-1)) C (-1) (tb_ 373 (by decide +kernel) rfl) (by decide) d_Si_gain_45 ?_
      refine sx_lreturn C Rr rfl d_Si_gain_48 ?_
      exact ⟨rfl, -1, rfl, sc33, Or.inr ⟨by omega, by omega, x33, _, z33, Or.inl ⟨by omega, rfl⟩⟩⟩
  · refine sx_ldc2 (v := (-1)) C (-1) (tb_ 373 (by decide +kernel) rfl) (by decide) d_Si_gain_11 ?_
    refine sx_lreturn C Rr rfl d_Si_gain_14 ?_
    exact ⟨rfl, -1, rfl, sc_refl hI, Or.inl ⟨by omega, rfl⟩⟩
