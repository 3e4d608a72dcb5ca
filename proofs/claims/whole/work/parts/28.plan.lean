/-- is g a plan from district k on? (n districts are left, s are the places given so far, rl the room left) -/
def PL (J : mt_J) : Nat → Nat → Nat → (Nat → Int) → (Nat → Int) → Prop
  | 0, _, s, _, _ => J.2.2.2.2.1 s = 1
  | n + 1, k, s, rl, g => (J.2.2.1 k = 0 ∧ g k = -1 ∧ PL J n (k + 1) s rl g) ∨ (J.2.2.1 k ≠ 0 ∧ ∃ p : Nat, p < J.2.1 ∧ g k = (p : Int) ∧ J.2.2.2.2.2.testBit p = true ∧ J.2.2.2.1 k p ≠ -1 ∧ J.2.2.1 k ≤ rl p ∧ PL J n (k + 1) (s ||| 2 ^ p) (fun q => if q = p then rl q - J.2.2.1 k else rl q) g)
theorem PL_rl {J : mt_J} : ∀ {n k s : Nat} {rl rl' g : Nat → Int}, J.2.1 ≤ 5 → (∀ p, p < 5 → rl p = rl' p) → PL J n k s rl g → PL J n k s rl' g
  | 0, _, _, _, _, _, _, _, h => h
  | n + 1, k, s, rl, rl', g, h5, e, h => by
    rcases h with ⟨h1, h2, h3⟩ | ⟨h1, p, hp, h2, h3, h4, h5', h7⟩
    · exact Or.inl ⟨h1, h2, PL_rl h5 e h3⟩
    · refine Or.inr ⟨h1, p, hp, h2, h3, h4, by rw [← e p (by omega)]; exact h5', PL_rl h5 (fun q hq => ?_) h7⟩
      show (if q = p then rl q - _ else rl q) = if q = p then rl' q - _ else rl' q
      rw [e q hq]
abbrev mp (M : sx_M0) : sx_M0 := sx_up (sx_cpy M 19 30 0 0 5) 17 12 31
theorem mp_ne {M : sx_M0} {a : Nat} (h1 : a ≠ 17) (h2 : a ≠ 30) : mp M a = M a := by
  rw [show mp M a = sx_cpy M 19 30 0 0 5 a from sx_up_ne h1]
  funext b
  simp [sx_cpy, h2]
theorem mp_17 {M : sx_M0} {b : Nat} (h : b ≠ 12) : mp M 17 b = M 17 b := by
  rw [show mp M 17 b = sx_cpy M 19 30 0 0 5 17 b from sx_up_slot h]
  simp [sx_cpy]
theorem mp_30 {M : sx_M0} {p : Nat} (hp : p < 5) : mp M 30 p = M 19 p := by
  rw [show mp M 30 = sx_cpy M 19 30 0 0 5 30 from sx_up_ne (by decide)]
  simp [sx_cpy, hp]
theorem mp_12 {M : sx_M0} : mp M 17 12 = 31 := sx_up_at
theorem mp_j {M : sx_M0} : jS (mp M) = jW M 31 := by
  unfold jS jW
  rw [mp_17 (b := 0) (by decide), mp_17 (b := 1) (by decide), mp_12, mp_ne (a := 18) (by decide) (by decide), mp_ne (a := 27) (by decide) (by decide)]
  have e : (fun d p => if d < 6 then mp M (20 + 1 + d) p else 0) = (fun d p => if d < 6 then M (20 + 1 + d) p else 0) := by
    funext d p
    by_cases hd : d < 6
    · rw [if_pos hd, if_pos hd, mp_ne (by omega) (by omega)]
    · rw [if_neg hd, if_neg hd]
  rw [e]
  rfl
theorem mp_sv {M : sx_M0} (hV : sv M) : sv (mp M) := by
  unfold sv at hV ⊢
  rw [mp_17 (b := 0) (by decide), mp_17 (b := 1) (by decide), mp_17 (b := 11) (by decide), mp_17 (b := 13) (by decide), mp_12, mp_ne (a := 18) (by decide) (by decide), mp_ne (a := 27) (by decide) (by decide), mp_ne (a := 29) (by decide) (by decide)]
  refine ⟨hV.1, hV.2.1, hV.2.2.1, fun d p hd hp => ?_, hV.2.2.2.2.1, by decide, hV.2.2.2.2.2.2.1, hV.2.2.2.2.2.2.2.1, hV.2.2.2.2.2.2.2.2⟩
  rw [mp_ne (by omega) (by omega)]
  exact hV.2.2.2.1 d p hd hp
theorem sv_30 {M M' : sx_M0} (h : ∀ a, a ≠ 30 → M' a = M a) (hV : sv M) : sv M' := by
  unfold sv at hV ⊢
  rw [h 17 (by decide), h 18 (by decide), h 27 (by decide), h 29 (by decide)]
  refine ⟨hV.1, hV.2.1, hV.2.2.1, fun d p hd hp => ?_, hV.2.2.2.2⟩
  rw [h (20 + 1 + d) (by omega)]
  exact hV.2.2.2.1 d p hd hp
theorem jS_30 {M M' : sx_M0} (h : ∀ a, a ≠ 30 → M' a = M a) : jS M' = jS M := jS_eq2 (by rw [h 17 (by decide)]) (by rw [h 17 (by decide)]) (by rw [h 17 (by decide)]) (h 18 (by decide)) (h 27 (by decide)) (fun d hd => h _ (by omega))
def ipI (Mp M : sx_M0) (d s : Nat) : Prop := (∀ a, a ≠ 30 → M a = Mp a) ∧ (∀ p, p < 5 → 0 ≤ M 30 p ∧ M 30 p ≤ 1000) ∧ (PL (jS Mp) (dN Mp) 0 0 (Mp 30) (Mp 34) ↔ PL (jS Mp) (dN Mp - d) d s (M 30) (Mp 34)) ∧ s < 32
theorem ip_no {Mp M : sx_M0} {d s : Nat} (hd : d < dN Mp) (h0 : Mp 18 d = 0) (hg : Mp 34 d = -1) (h : ipI Mp M d s) : ipI Mp M (d + 1) s := by
  refine ⟨h.1, h.2.1, h.2.2.1.trans ?_, h.2.2.2⟩
  rw [show dN Mp - d = dN Mp - (d + 1) + 1 by omega]
  constructor
  · rintro (⟨-, -, q⟩ | ⟨q, -⟩)
    · exact q
    · exact absurd h0 q
  · exact fun q => Or.inl ⟨h0, hg, q⟩
theorem ip_bad0 {Mp M : sx_M0} {d s : Nat} (hd : d < dN Mp) (h0 : Mp 18 d = 0) (hg : Mp 34 d ≠ -1) (h : ipI Mp M d s) : ¬ PL (jS Mp) (dN Mp) 0 0 (Mp 30) (Mp 34) := by
  rw [h.2.2.1, show dN Mp - d = dN Mp - (d + 1) + 1 by omega]
  rintro (⟨-, q, -⟩ | ⟨q, -⟩)
  · exact hg q
  · exact absurd h0 q
theorem ip_bad {Mp M : sx_M0} {d s : Nat} (hd : d < dN Mp) (hd6 : d < 6) (h0 : Mp 18 d ≠ 0) (hno : ¬ (∃ p : Nat, p < (Mp 17 1).toNat ∧ Mp 34 d = (p : Int) ∧ (jS Mp).2.2.2.2.2.testBit p = true ∧ Mp (20 + 1 + d) p ≠ -1 ∧ Mp 18 d ≤ M 30 p)) (h : ipI Mp M d s) : ¬ PL (jS Mp) (dN Mp) 0 0 (Mp 30) (Mp 34) := by
  rw [h.2.2.1, show dN Mp - d = dN Mp - (d + 1) + 1 by omega]
  rintro (⟨q, -⟩ | ⟨-, p, h1, h2, h3, h4, h5, -⟩)
  · exact h0 q
  · have e : (jS Mp).2.2.2.1 d p = Mp (20 + 1 + d) p := if_pos hd6
    rw [e] at h4
    exact hno ⟨p, h1, h2, h3, h4, h5⟩
theorem ip_yes {Mp M : sx_M0} {d s p : Nat} (hd : d < dN Mp) (hd6 : d < 6) (hN : 0 ≤ Mp 18 d) (h0 : Mp 18 d ≠ 0) (hp : p < (Mp 17 1).toNat) (hp5 : p < 5) (hg : Mp 34 d = (p : Int)) (hb : (jS Mp).2.2.2.2.2.testBit p = true) (hr : Mp (20 + 1 + d) p ≠ -1) (hl : Mp 18 d ≤ M 30 p) (h : ipI Mp M d s) : ipI Mp (sx_up M 30 p (M 30 p - Mp 18 d)) (d + 1) (s ||| 2 ^ p) := by
  have e : (jS Mp).2.2.2.1 d p = Mp (20 + 1 + d) p := if_pos hd6
  have e30 : sx_up M 30 p (M 30 p - Mp 18 d) 30 = fun q => if q = p then M 30 q - Mp 18 d else M 30 q := by
    funext q
    by_cases hq : q = p
    · subst hq
      rw [sx_up_at, if_pos rfl]
    · rw [sx_up_slot hq, if_neg hq]
  refine ⟨fun a ha => by rw [sx_up_ne ha]; exact h.1 a ha, fun q hq => ?_, h.2.2.1.trans ?_, (or_bit s h.2.2.2 p hp5).2⟩
  · have := h.2.1 q hq
    rw [e30]
    show 0 ≤ (if q = p then _ else _) ∧ (if q = p then _ else _) ≤ 1000
    by_cases hq : q = p
    · subst hq
      rw [if_pos rfl]
      omega
    · rw [if_neg hq]
      exact this
  · rw [show dN Mp - d = dN Mp - (d + 1) + 1 by omega, e30]
    constructor
    · rintro (⟨q, -⟩ | ⟨-, q, h1, h2, h3, h4, h5, h6⟩)
      · exact absurd q h0
      · have eq : q = p := by omega
        subst eq
        exact h6
    · intro q
      exact Or.inr ⟨h0, p, hp, hg, hb, by rw [e]; exact hr, hl, q⟩

set_option maxRecDepth 100000 in
set_option maxHeartbeats 4000000 in
theorem lp_Se_isPlan  (M0 : sx_M0) (hV : sv M0) (hH : hv M0) {E : sx_E} (C : sx_C SC g_tbl "SiteChoice$Search" c_Se_isPlan E) (Rr : sx_Ret SC (some .boolean) (rmk 2 80) (fun r G' M' => G' = GL ∧ (∀ a, a ≠ 17 → a ≠ 30 → M' a = M0 a) ∧ (∀ b, b ≠ 12 → M' 17 b = M0 17 b) ∧ sv M' ∧ bz (PL (jW M0 31) (dN M0) 0 0 (M0 19) (M0 34)) r) E) (hnL : sx_nL E = 5) : ∀ (nF : Nat) (d s : Nat) (M : sx_M0), (M0 17 0).toNat - d < nF → ipI (mp M0) M d s → d ≤ (M0 17 0).toNat → sx_X SC E (0, 0) GL M 24 [(3, sx_I (((d : Nat) : Int))), (2, sx_I (((s : Nat) : Int))), (0, sx_A (17)), (1, sx_A (34))] [] := by
  intro nF
  induction nF with
  | zero => intro d s M h; omega
  | succ nF ih =>
    intro d s M hn h h2
    have g0 := hV.1
    have g1 := hV.2.1
    have e17 : M 17 = mp M0 17 := h.1 17 (by decide)
    have e18 : M 18 = mp M0 18 := h.1 18 (by decide)
    have e27 : M 27 = M0 27 := (h.1 27 (by decide)).trans (mp_ne (by decide) (by decide))
    have hVM := sv_30 h.1 (mp_sv hV)
    have eJ : jS M = jS (mp M0) := jS_30 h.1
    have hm0 : mp M0 17 0 = M0 17 0 := mp_17 (by decide)
    have hm1 : mp M0 17 1 = M0 17 1 := mp_17 (by decide)
    have hmj : jS (mp M0) = jW M0 31 := mp_j
    have hmD : dN (mp M0) = dN M0 := congrArg Int.toNat hm0
    have hm34 : mp M0 34 = M0 34 := mp_ne (by decide) (by decide)
    have hDD : dN M0 = (M0 17 0).toNat := rfl
    have hP5 : (jW M0 31).2.1 ≤ 5 := by show (M0 17 1).toNat ≤ 5; omega
    have eR : M (20 + 1 + d) = mp M0 (20 + 1 + d) := h.1 _ (by omega)
    refine sx_iload_n C 0 d_Se_isPlan_24 rfl rfl ?_
    refine sx_aload_n C 2 d_Se_isPlan_25 rfl rfl ?_
    refine sx_geti C f_Se_9 (by decide) rfl d_Se_isPlan_26 ?_
    rw [e17]
    refine sx_icmp_ge C 114 ⟨by omega, by omega⟩ ⟨by omega, by omega⟩ d_Se_isPlan_29 (by decide) (fun c29 => ?_) (fun c29 => ?_)
    · refine sx_aload_n C 2 d_Se_isPlan_114 rfl rfl ?_
      refine sx_getr C f_Se_30 27 (by decide) rfl rfl d_Se_isPlan_115 ?_
      refine sx_iload_n C 1 d_Se_isPlan_118 rfl rfl ?_
      have hs32 := h.2.2.2
      have hm27 := hVM.2.2.2.2.1 s h.2.2.2
      refine sx_zaload C s (by decide) rfl rfl rfl (by omega) (by decide) d_Se_isPlan_119 ?_
      refine sx_zreturn C Rr (by omega) rfl d_Se_isPlan_120 ?_
      refine ⟨rfl, fun a h1 h2 => (h.1 a h2).trans (mp_ne h1 h2), fun b hb => by rw [h.1 17 (by decide)]; exact mp_17 hb, sv_30 h.1 (mp_sv hV), M 27 s, rfl, ?_⟩
      have hi := h.2.2.1
      rw [show dN (mp M0) - d = 0 by omega, hmj, hmD, hm34] at hi
      have hi2 : PL (jW M0 31) (dN M0) 0 0 (M0 19) (M0 34) ↔ M0 27 s = 1 := ⟨fun z => hi.mp (PL_rl hP5 (fun p hp => (mp_30 hp).symm) z), fun z => PL_rl hP5 (fun p hp => mp_30 hp) (hi.mpr z)⟩
      rw [hi2, ← e27]
      omega
    · refine sx_aload_n C 3 d_Se_isPlan_32 rfl rfl ?_
      refine sx_iload_n C 0 d_Se_isPlan_33 rfl rfl ?_
      refine sx_iaload C d (by decide) rfl rfl rfl (by omega) (by decide) d_Se_isPlan_34 ?_
      have h34 := hH.2.1 d (by omega)
      rw [← hm34] at h34
      rw [h.1 34 (by decide)]
      refine sx_istore (lv' := [(4, sx_I (mp M0 34 d)), (3, sx_I (((d : Nat) : Int))), (2, sx_I (((s : Nat) : Int))), (0, sx_A (17)), (1, sx_A (34))]) C d_Se_isPlan_35 (by rw [hnL]; decide) rfl ?_
      refine sx_aload_n C 3 d_Se_isPlan_37 rfl rfl ?_
      refine sx_getr C f_Se_18 18 (by decide) rfl rfl d_Se_isPlan_38 ?_
      refine sx_iload_n C 1 d_Se_isPlan_41 rfl rfl ?_
      refine sx_laload C d (by decide) rfl rfl rfl (by omega) (by decide) d_Se_isPlan_42 ?_
      have hN := (mp_sv hV).2.2.1 d (by omega)
      rw [e18]
      refine sx_lconst C 0 rfl d_Se_isPlan_43 ?_
      refine sx_lcmp_le C 100 ⟨by omega, by omega⟩ ⟨by omega, by omega⟩ d_Se_isPlan_44 d_Se_isPlan_45 (by decide) (fun c45 => ?_) (fun c45 => ?_)
      · refine sx_iload C 0 d_Se_isPlan_100 rfl ?_
        refine sx_iconst C d_Se_isPlan_102 ?_
        refine sx_icmp_eq C 108 ⟨by omega, by omega⟩ ⟨by omega, by omega⟩ d_Se_isPlan_103 (by decide) (fun c103 => ?_) (fun c103 => ?_)
        · refine sx_iinc (lv' := [(3, sx_I (((d + 1 : Nat) : Int))), (4, sx_I (mp M0 34 d)), (2, sx_I (((s : Nat) : Int))), (0, sx_A (17)), (1, sx_A (34))]) C 1 d_Se_isPlan_108 rfl (by rw [hnL]; decide) rfl ?_
          refine sx_goto C 24 d_Se_isPlan_111 (by decide) ?_
          refine sx_sub [0, 2, 3, 4] rfl ?_
          exact ih (d + 1) s M (by omega) (ip_no (by omega) (by omega) (by omega) h) (by omega)
        · refine sx_iconst C d_Se_isPlan_106 ?_
          refine sx_zreturn C Rr (by omega) rfl d_Se_isPlan_107 ?_
          refine ⟨rfl, fun a h1 h2 => (h.1 a h2).trans (mp_ne h1 h2), fun b hb => by rw [h.1 17 (by decide)]; exact mp_17 hb, sv_30 h.1 (mp_sv hV), 0, rfl, Or.inr ⟨rfl, ?_⟩⟩
          have hbad := ip_bad0 (by omega) (by omega) (by omega) h
          rw [hmj, hmD, hm34] at hbad
          exact fun z => hbad (PL_rl hP5 (fun p hp => (mp_30 hp).symm) z)
      · refine sx_iload C 0 d_Se_isPlan_48 rfl ?_
        refine sx_if_lt C 72 ⟨by omega, by omega⟩ d_Se_isPlan_50 (by decide) (fun c50 => ?_) (fun c50 => ?_)
        · refine sx_iconst C d_Se_isPlan_72 ?_
          refine sx_zreturn C Rr (by omega) rfl d_Se_isPlan_73 ?_
          refine ⟨rfl, fun a h1 h2 => (h.1 a h2).trans (mp_ne h1 h2), fun b hb => by rw [h.1 17 (by decide)]; exact mp_17 hb, sv_30 h.1 (mp_sv hV), 0, rfl, Or.inr ⟨rfl, ?_⟩⟩
          have hbad := ip_bad (by omega) (by omega) (by omega) (by rintro ⟨p2, z1, z2, -⟩; omega) h
          rw [hmj, hmD, hm34] at hbad
          exact fun z => hbad (PL_rl hP5 (fun p hp => (mp_30 hp).symm) z)
        · refine sx_iload C 0 d_Se_isPlan_53 rfl ?_
          refine sx_aload_n C 3 d_Se_isPlan_55 rfl rfl ?_
          refine sx_geti C f_Se_15 (by decide) rfl d_Se_isPlan_56 ?_
          rw [e17]
          refine sx_icmp_ge C 72 ⟨by omega, by omega⟩ ⟨by omega, by omega⟩ d_Se_isPlan_59 (by decide) (fun c59 => ?_) (fun c59 => ?_)
          · refine sx_iconst C d_Se_isPlan_72 ?_
            refine sx_zreturn C Rr (by omega) rfl d_Se_isPlan_73 ?_
            refine ⟨rfl, fun a h1 h2 => (h.1 a h2).trans (mp_ne h1 h2), fun b hb => by rw [h.1 17 (by decide)]; exact mp_17 hb, sv_30 h.1 (mp_sv hV), 0, rfl, Or.inr ⟨rfl, ?_⟩⟩
            have hbad := ip_bad (by omega) (by omega) (by omega) (by rintro ⟨p2, z1, z2, -⟩; omega) h
            rw [hmj, hmD, hm34] at hbad
            exact fun z => hbad (PL_rl hP5 (fun p hp => (mp_30 hp).symm) z)
          · obtain ⟨p, hp⟩ : ∃ p : Nat, mp M0 34 d = (p : Int) := ⟨(mp M0 34 d).toNat, by omega⟩
            rw [hp]
            refine sx_aload_n C 3 d_Se_isPlan_62 rfl rfl ?_
            refine sx_iload C 0 d_Se_isPlan_63 rfl ?_
            refine sx_iload_n C 1 d_Se_isPlan_65 rfl rfl ?_
            refine sx_callV (n := 71) (As := [sx_I (((p : Nat) : Int)), sx_I (((d : Nat) : Int))]) (st := []) C (ct_Se_canTake _ _ _ M hVM (fun p hp => by have := h.2.1 p hp; omega) p d (by omega) (by omega)) rfl (by decide) rfl (cv_Se_153 E C _ (by rw [Rr.2.2]; decide)) (Nat.le_of_ble_eq_true rfl) d_Se_isPlan_66 (by rw [Rr.2.2]; decide) (by decide) rfl rfl rfl (fun r66 G66 M66 hpo _ => ?_)
            obtain ⟨e1, e2, b66, rfl, hb66⟩ := hpo
            rw [e1, e2]
            show sx_X SC E (0, 0) GL M 69 [(4, sx_I (((p : Nat) : Int))), (3, sx_I (((d : Nat) : Int))), (2, sx_I (((s : Nat) : Int))), (0, sx_A (17)), (1, sx_A (34))] [sx_I (b66)]
            refine sx_if_ne C 74 ⟨by omega, by omega⟩ d_Se_isPlan_69 (by decide) (fun c69 => ?_) (fun c69 => ?_)
            · have hy : (jS (mp M0)).2.2.2.2.2.testBit p = true ∧ mp M0 (20 + 1 + d) p ≠ -1 ∧ mp M0 18 d ≤ M 30 p := by
                rcases hb66 with ⟨q1, q2⟩ | ⟨q1, q2⟩
                · rw [eJ, eR, e18] at q2; exact q2
                · omega
              refine sx_aload_n C 3 d_Se_isPlan_74 rfl rfl ?_
              refine sx_getr C f_Se_40 30 (by decide) rfl rfl d_Se_isPlan_75 ?_
              refine sx_iload C 0 d_Se_isPlan_78 rfl ?_
              refine sx_dup2_11 C d_Se_isPlan_80 rfl rfl ?_
              refine sx_laload C p (by decide) rfl rfl rfl (by omega) (by decide) d_Se_isPlan_81 ?_
              refine sx_aload_n C 3 d_Se_isPlan_82 rfl rfl ?_
              refine sx_getr C f_Se_18 18 (by decide) rfl rfl d_Se_isPlan_83 ?_
              refine sx_iload_n C 1 d_Se_isPlan_86 rfl rfl ?_
              refine sx_laload C d (by decide) rfl rfl rfl (by omega) (by decide) d_Se_isPlan_87 ?_
              rw [e18]
              refine sx_lsub C d_Se_isPlan_88 ?_
              refine sx_lastore C p (by decide) rfl rfl rfl (by omega) (by decide) d_Se_isPlan_89 ?_
              refine sx_iload_n C 2 d_Se_isPlan_90 rfl rfl ?_
              refine sx_iconst C d_Se_isPlan_91 ?_
              refine sx_iload C 0 d_Se_isPlan_92 rfl ?_
              refine sx_ishl C d_Se_isPlan_94 ?_
              refine sx_ior C d_Se_isPlan_95 ?_
              rw [(or_bit s h.2.2.2 p (by omega)).1]
              refine sx_istore_n (lv' := [(2, sx_I (((s ||| 2 ^ p : Nat) : Int))), (4, sx_I (((p : Nat) : Int))), (3, sx_I (((d : Nat) : Int))), (0, sx_A (17)), (1, sx_A (34))]) C d_Se_isPlan_96 rfl (by rw [hnL]; decide) rfl ?_
              refine sx_goto C 108 d_Se_isPlan_97 (by decide) ?_
              refine sx_iinc (lv' := [(3, sx_I (((d + 1 : Nat) : Int))), (2, sx_I (((s ||| 2 ^ p : Nat) : Int))), (4, sx_I (((p : Nat) : Int))), (0, sx_A (17)), (1, sx_A (34))]) C 2 d_Se_isPlan_108 rfl (by rw [hnL]; decide) rfl ?_
              refine sx_goto C 24 d_Se_isPlan_111 (by decide) ?_
              refine sx_sub [0, 1, 3, 4] rfl ?_
              exact ih (d + 1) (s ||| 2 ^ p) _ (by omega) (ip_yes (by omega) (by omega) (by omega) (by omega) (by omega) (by omega) hp hy.1 hy.2.1 hy.2.2 h) (by omega)
            · refine sx_iconst C d_Se_isPlan_72 ?_
              refine sx_zreturn C Rr (by omega) rfl d_Se_isPlan_73 ?_
              refine ⟨rfl, fun a h1 h2 => (h.1 a h2).trans (mp_ne h1 h2), fun b hb => by rw [h.1 17 (by decide)]; exact mp_17 hb, sv_30 h.1 (mp_sv hV), 0, rfl, Or.inr ⟨rfl, ?_⟩⟩
              have hbad := ip_bad (by omega) (by omega) (by omega) (by rintro ⟨p2, z1, z2, z3, z4, z5⟩; have ez : p2 = p := (by omega); subst ez; rcases hb66 with ⟨q1, q2⟩ | ⟨q1, q2⟩; omega; exact q2 ⟨by rw [eJ]; exact z3, by rw [eR]; exact z4, by rw [e18]; exact z5⟩) h
              rw [hmj, hmD, hm34] at hbad
              exact fun z => hbad (PL_rl hP5 (fun p hp => (mp_30 hp).symm) z)
set_option maxRecDepth 100000 in
set_option maxHeartbeats 4000000 in
theorem ct_Se_isPlan (l : Launch) (D : va_G) (tc : Nat → ClassId) (M : sx_M0) (hV : sv M) (hH : hv M) (hR : ∀ p, p < 5 → 0 ≤ M 19 p ∧ M 19 p ≤ 1000) : sx_Met SC l D tc y_Se_isPlan w_Se_isPlan (rmk 2 80) [sx_A (17), sx_A (34)] GL M (fun r G' M' => G' = GL ∧ (∀ a, a ≠ 17 → a ≠ 30 → M' a = M a) ∧ (∀ b, b ≠ 12 → M' 17 b = M 17 b) ∧ sv M' ∧ bz (PL (jW M 31) (dN M) 0 0 (M 19) (M 34)) r) := by
  refine sx_enter (by decide) rfl (Nat.le_of_ble_eq_true rfl) (Ts := g_tbl) (fun _ h => List.mem_cons_of_mem _ h) (fun E C Rr hnm hnL => ?_)
  refine sx_aload_n C 0 d_Se_isPlan_0 rfl rfl ?_
  refine sx_getr C f_Se_22 19 (by decide) rfl rfl d_Se_isPlan_1 ?_
  refine sx_iconst C d_Se_isPlan_4 ?_
  refine sx_aload_n C 0 d_Se_isPlan_5 rfl rfl ?_
  refine sx_getr C f_Se_40 30 (by decide) rfl rfl d_Se_isPlan_6 ?_
  refine sx_iconst C d_Se_isPlan_9 ?_
  refine sx_iconst C d_Se_isPlan_10 ?_
  refine sx_copyL (sp := 0) (dp := 0) (n := 5) C (by decide) rfl (by decide) rfl rfl rfl rfl rfl (by decide) (by decide) (by decide) (by decide) (tb_ 343 (by decide +kernel) rfl) (tb_ 345 (by decide +kernel) rfl) (tb_ 344 (by decide +kernel) rfl) (tb_ 10 (by decide +kernel) rfl) (by rw [Rr.2.2]; decide) (by rw [Rr.2.2]; decide) d_Se_isPlan_11 ?_
  refine sx_aload_n C 0 d_Se_isPlan_14 rfl rfl ?_
  refine sx_bipush C d_Se_isPlan_15 (by decide) ?_
  refine sx_puti C p_Se_56 (by decide) rfl d_Se_isPlan_17 ?_
  refine sx_iconst C d_Se_isPlan_20 ?_
  refine sx_istore_n (lv' := [(2, sx_I (0)), (0, sx_A (17)), (1, sx_A (34))]) C d_Se_isPlan_21 rfl (by rw [hnL]; decide) rfl ?_
  refine sx_iconst C d_Se_isPlan_22 ?_
  refine sx_istore_n (lv' := [(3, sx_I (0)), (2, sx_I (0)), (0, sx_A (17)), (1, sx_A (34))]) C d_Se_isPlan_23 rfl (by rw [hnL]; decide) rfl ?_
  refine sx_sub [0, 1, 2, 3] rfl ?_
  exact lp_Se_isPlan M hV hH C Rr hnL _ 0 0 (mp M) (Nat.lt_succ_self _) ⟨fun _ _ => rfl, fun p hp => by rw [mp_30 hp]; exact hR p hp, by rw [Nat.sub_zero], by decide⟩ (Nat.zero_le _)
