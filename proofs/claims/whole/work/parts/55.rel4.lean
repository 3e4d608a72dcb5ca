/-! run and improve -/
theorem ci_lo {M N : sx_M0} (f : ∀ a, a ≤ 52 → N a = M a) (h : ci M) : ci N := by
  obtain ⟨k1, k2, k3, k4, k5⟩ := h
  refine ⟨tw_fr (fun a ha => f a (by omega)) k1, ?_, ?_, by rw [f 17 (by decide)]; exact k4, by rw [f 19 (by decide)]; exact k5⟩
  · unfold sv at k2 ⊢
    rw [f 17 (by decide), f 18 (by decide), f 27 (by decide), f 29 (by decide)]
    refine ⟨k2.1, k2.2.1, k2.2.2.1, fun d p hd hp => ?_, k2.2.2.2.2⟩
    rw [f (20 + 1 + d) (by omega)]
    exact k2.2.2.2.1 d p hd hp
  · unfold hv at k3 ⊢
    rw [f 33 (by decide), f 34 (by decide), f 35 (by decide), f 36 (by decide), f 37 (by decide), f 38 (by decide), f 0 (by decide)]
    exact k3
theorem rl_mk {M N : sx_M0} (h : rl M) (hI : ci N) (f : ∀ a, (0 < a ∧ a < 17) ∨ a = 37 ∨ a = 38 ∨ (54 ≤ a ∧ a ≤ 62) ∨ a = 64 → N a = M a) (e0 : N 53 0 = M 53 0) (e1 : N 53 1 = M 53 1) (e11 : N 53 11 = M 53 11) (e17 : N 53 17 = M 53 17) (hH : rH N) (hP : N 53 15 = N 0 5) (hC : rC N) : rl N := by
  obtain ⟨hJ, hr, hU, _, _, _, hY⟩ := h
  have g0 := hJ.1.1
  refine ⟨hI, ?_, ?_, hH, hP, hC, ?_⟩
  · unfold rT at hr ⊢
    rw [e0, e1, e11, f 1 (by omega), f 54 (by omega), f 2 (by omega), f 55 (by omega), f 3 (by omega), f 62 (by omega), f 56 (by omega), f 57 (by omega), f 58 (by omega), f 59 (by omega), f 60 (by omega), f 61 (by omega), f 11 (by omega), f 12 (by omega), f 13 (by omega), f 14 (by omega), f 15 (by omega), f 16 (by omega)]
    refine ⟨hr.1, hr.2.1, hr.2.2.1, hr.2.2.2.1, hr.2.2.2.2.1, fun d p h1 h2 => ?_, hr.2.2.2.2.2.2⟩
    rw [f (4 + 1 + d) (by omega)]
    exact hr.2.2.2.2.2.1 d p h1 h2
  · unfold rU at hU ⊢
    rw [f 1 (by omega), f 55 (by omega), f 62 (by omega)]
    exact hU
  · unfold rY at hY ⊢
    rw [e17, f 37 (by omega), f 64 (by omega), f 38 (by omega)]
    exact hY
theorem rC_0 {N : sx_M0} (h1 : N 53 16 = 0) (h2 : N 35 0 = 0) : rC N := by
  refine ⟨0, by decide, h1, fun k => ?_⟩
  rw [cl_0]
  unfold mbS
  rw [if_neg (by omega)]
/-- what stands between the class's call and the reference's -/
theorem mid_T {M N : sx_M0} (h : rl M) (f : ∀ a, (0 < a ∧ a < 17) ∨ (53 ≤ a ∧ a ≤ 62) → N a = M a) : tw N ∧ rT N := by
  obtain ⟨hJ, hr, _⟩ := h
  have g0 := hJ.1.1
  refine ⟨tw_fr1 (fun a h1 h2 => f a (by omega)) hJ.1, ?_⟩
  unfold rT at hr ⊢
  rw [f 53 (by omega), f 1 (by omega), f 54 (by omega), f 2 (by omega), f 55 (by omega), f 3 (by omega), f 62 (by omega), f 56 (by omega), f 57 (by omega), f 58 (by omega), f 59 (by omega), f 60 (by omega), f 61 (by omega), f 11 (by omega), f 12 (by omega), f 13 (by omega), f 14 (by omega), f 15 (by omega), f 16 (by omega)]
  refine ⟨hr.1, hr.2.1, hr.2.2.1, hr.2.2.2.1, hr.2.2.2.2.1, fun d p h1 h2 => ?_, hr.2.2.2.2.2.2⟩
  rw [f (4 + 1 + d) (by omega)]
  exact hr.2.2.2.2.2.1 d p h1 h2
theorem mid_run {M Ma : sx_M0} {x r : Int} (h : rl M) (h1 : roP M Ma x r) : tw Ma ∧ rT Ma := mid_T h (fun a ha => (rn_ci h.1 h1).2 a (by omega))
theorem kp_0 {M2 : sx_M0} {s : Int} {a : Nat} (h1 : a ≠ 0) (h2 : a ≠ 33) (h3 : a ≠ 34) : kpM M2 s a = M2 a := by
  show sx_up _ 0 5 1 a = _
  rw [sx_up_ne h1]
  funext b
  show sx_cpy _ 32 34 0 0 6 a b = _
  unfold sx_cpy
  rw [if_neg (by omega), sx_up_ne h2, sx_up_ne h2]
theorem kp_33 {M2 : sx_M0} {s : Int} : kpM M2 s 33 0 = 1 ∧ kpM M2 s 33 1 = s := by
  constructor
  · show sx_up _ 0 5 1 33 0 = _
    rw [sx_up_ne (by decide)]
    show sx_cpy _ 32 34 0 0 6 33 0 = _
    unfold sx_cpy
    rw [if_neg (by omega), sx_up_slot (by decide), sx_up_at]
  · show sx_up _ 0 5 1 33 1 = _
    rw [sx_up_ne (by decide)]
    show sx_cpy _ 32 34 0 0 6 33 1 = _
    unfold sx_cpy
    rw [if_neg (by omega), sx_up_at]
theorem kp_34 {M2 : sx_M0} {s : Int} {b : Nat} (hb : b < 6) : kpM M2 s 34 b = M2 32 b := by
  show sx_up _ 0 5 1 34 b = _
  rw [sx_up_ne (by decide)]
  show sx_cpy _ 32 34 0 0 6 34 b = _
  unfold sx_cpy
  rw [if_pos (by omega), sx_up_ne (by decide), sx_up_ne (by decide)]
  simp
theorem rn2_53 {M : sx_M0} : rn2 M 53 12 = 0 ∧ rn2 M 53 15 = 0 ∧ rn2 M 53 16 = 0 ∧ ∀ b, b ≠ 12 → b ≠ 15 → b ≠ 16 → rn2 M 53 b = M 53 b :=
  ⟨by rw [show rn2 M 53 12 = sx_up (sx_up M 53 12 0) 53 15 0 53 12 from sx_up_slot (by decide), sx_up_slot (by decide), sx_up_at], by rw [show rn2 M 53 15 = sx_up (sx_up M 53 12 0) 53 15 0 53 15 from sx_up_slot (by decide), sx_up_at], sx_up_at, fun b h1 h2 h3 => by rw [show rn2 M 53 b = sx_up (sx_up M 53 12 0) 53 15 0 53 b from sx_up_slot h3, sx_up_slot h2, sx_up_slot h1]⟩
theorem rn1_v {M : sx_M0} : rn1 M 33 0 = 0 ∧ rn1 M 35 0 = 0 ∧ rn1 M 0 5 = 0 :=
  ⟨by rw [show rn1 M 33 0 = sx_up (sx_up M 33 0 0) 35 0 0 33 0 from congrFun (sx_up_ne (by decide)) 0, sx_up_ne (by decide), sx_up_at], by rw [show rn1 M 35 0 = sx_up (sx_up M 33 0 0) 35 0 0 35 0 from congrFun (sx_up_ne (by decide)) 0, sx_up_at], sx_up_at⟩
theorem op_run {M Ma Mb : sx_M0} {x r1 r2 : Int} (h : rl M) (h1 : roP M Ma x r1) (h2 : mrP Ma Mb x r2) : r1 = r2 ∧ rl Mb := by
  obtain ⟨hIa, fa⟩ := rn_ci h.1 h1
  have hI1 := ci_rn h.1
  have hT := h.1.1
  have g0 := hT.1
  have g1 := hT.2.1
  have ff : fr1 (rn1 M) Ma := fun a h1 h2 => (fa a (by omega)).trans (rn1_ne (by omega) (by omega) (by omega)).symm
  have eA1 : Ma 1 = M 1 := fa 1 (by omega)
  have e11 : rn1 M 1 = M 1 := rn1_ne (by decide) (by decide) (by decide)
  have ew : wyS Ma (Ma 1 0).toNat = wyS (rn1 M) (rn1 M 1 0).toNat := by rw [eA1, e11]; exact wy_f1 ff _ (by omega)
  have h63 := h.2.2.2.1.2.2
  rcases h1 with ⟨a0, a1, a2⟩ | ⟨a0, ⟨a1, a2, a3⟩ | ⟨a1, M2, s, a2, a3, a4, a5, a6⟩⟩
  · rcases h2 with ⟨_, b1, b2⟩ | ⟨b0, _⟩ | ⟨b0, _⟩
    · subst a2 b2
      exact ⟨by omega, h⟩
    · omega
    · omega
  · rcases h2 with ⟨b0, _⟩ | ⟨_, _, b1, b2⟩ | ⟨_, b0, _⟩
    · omega
    · obtain ⟨v1, v2, v3, v4⟩ := rn2_53 (M := Ma)
      refine ⟨by omega, ?_⟩
      subst b2
      have e33 : rn2 Ma 33 0 = 0 := by rw [rn2_ne (by decide), a3]; exact rn1_v.1
      have e35 : rn2 Ma 35 0 = 0 := by rw [rn2_ne (by decide), a3]; exact rn1_v.2.1
      have e05 : rn2 Ma 0 5 = 0 := by rw [rn2_ne (by decide), a3]; exact rn1_v.2.2
      have e53 : Ma 53 = M 53 := fa 53 (by omega)
      have e63 : rn2 Ma 63 = M 63 := by rw [rn2_ne (by decide)]; exact fa 63 (by omega)
      refine rl_mk h (ci_lo (fun a ha => rn2_ne (by omega)) hIa) (fun a ha => (rn2_ne (by omega)).trans (fa a (by omega))) (by rw [v4 0 (by decide) (by decide) (by decide), e53]) (by rw [v4 1 (by decide) (by decide) (by decide), e53]) (by rw [v4 11 (by decide) (by decide) (by decide), e53]) (by rw [v4 17 (by decide) (by decide) (by decide), e53]) ?_ (by rw [v2, e05]) (rC_0 v3 e35)
      unfold rH
      rw [v1, e33, e63]
      exact ⟨rfl, fun z => by omega, h63⟩
    · omega
  · rcases h2 with ⟨b0, _⟩ | ⟨_, b0, _⟩ | ⟨_, _, s', b, b1, b2⟩
    · omega
    · omega
    · obtain ⟨t1, t2⟩ := tie_ld hI1.1 ff (Q := ldM (rn1 M) (-1)) (fun a _ => Or.inl rfl) a5 b1
      have hIL := ci_sc hI1 (sc_ld hI1 (-1))
      have sc2 := sc_tr (sc_ld hI1 (-1)) (sc_ls hIL.2.2.2.1 hIL.2.2.2.2 a4 a3)
      have f2 : ∀ a, a < 17 ∨ (33 ≤ a ∧ a < 39) ∨ 53 ≤ a → M2 a = rn1 M a := fun a ha => sc2.1 a (by omega)
      have sb := se_bd b1
      have e53 : Ma 53 = M 53 := fa 53 (by omega)
      rcases a6 with ⟨c1, c2, c3⟩ | ⟨c1, c2, c3⟩
      · rcases b2 with ⟨_, d2, ⟨cs, d3, d4, d5⟩, d6, d7⟩ | ⟨d1, _⟩
        · refine ⟨by omega, ?_⟩
          obtain ⟨v1, v2, v3, v4⟩ := rn2_53 (M := Ma)
          have q53 : ∀ j, j ≠ 12 → j ≠ 15 → j ≠ 16 → Mb 53 j = M 53 j := fun j h1 h2 h3 => by rw [d7 j h3, v4 j h1 h2 h3, e53]
          obtain ⟨M3, c4, c5⟩ := c3
          have f3 : ∀ a, a < 17 ∨ (33 ≤ a ∧ a < 39) ∨ 53 ≤ a → M3 a = rn1 M a := fun a ha => by rw [c4.1 a (by omega) (by omega) (by omega) (by omega) (by omega) (by omega)]; exact f2 a ha
          have f4 : ∀ a, a = 0 ∨ a = 33 → Ma a = rn1 M a := fun a ha => by
            rcases c5 with ⟨c, _, _, _, _, c5⟩ | ⟨_, c5⟩
            · rw [c5.1 a (by omega) (by omega)]; exact f3 a (by omega)
            · rw [c5]; exact f3 a (by omega)
          have fb : ∀ a, a ≤ 52 ∨ (54 ≤ a ∧ a ≤ 64) → Mb a = Ma a := fun a ha => d6 a (by omega) (by omega) (by omega) (by omega)
          have e33 : Mb 33 0 = 0 := by rw [fb 33 (by omega), f4 33 (by omega)]; exact rn1_v.1
          have e05 : Mb 0 5 = 0 := by rw [fb 0 (by omega), f4 0 (by omega)]; exact rn1_v.2.2
          have e63 : Mb 63 = M 63 := by rw [fb 63 (by omega)]; exact fa 63 (by omega)
          refine rl_mk h (ci_lo (fun a ha => fb a (by omega)) hIa) (fun a ha => (fb a (by omega)).trans (fa a (by omega))) (q53 0 (by decide) (by decide) (by decide)) (q53 1 (by decide) (by decide) (by decide)) (q53 11 (by decide) (by decide) (by decide)) (q53 17 (by decide) (by decide) (by decide)) ?_ (by rw [d7 15 (by decide), v2, e05]) ?_
          · unfold rH
            rw [d7 12 (by decide), v1, e33, e63]
            exact ⟨rfl, fun z => by omega, h63⟩
          · have em : ∀ k, mbS Mb k = mbS Ma k := fun k => by
              unfold mbS
              rw [fb 35 (by omega), fb 36 (by omega)]
            have eM2 : M2 1 0 = M 1 0 := by rw [f2 1 (by omega), e11]
            have hP : ∀ c, c < 2 ^ (M 1 0).toNat → (noP M2 c ↔ npS Ma (rv (M 1 0).toNat c)) := fun c hc => by
              have q := no_np (M := rn1 M) (N := Ma) (Q := M2) hI1.1 ff (fun a ha => ls_Q a4 a ha) (f2 2 (by omega)) (c := c) (by rw [e11]; exact hc)
              rw [e11] at q
              exact q
            have n7 : (M 1 0).toNat < 7 := by omega
            rw [eM2] at c5
            unfold fcE at d3
            rw [eA1] at d3
            rcases c5 with ⟨c, x1, x2, x3, x4, x5⟩ | ⟨x1, x2⟩
            · rcases d3 with ⟨_, y2⟩ | ⟨y1, y2, y3, y4⟩
              · exact absurd ((hP c x2).mp x3) (y2 _ (rv_pos _ n7 c x2 x1) (rv_lt _ n7 c x2))
              · have ec := tie_clash n7 hP x2 x1 x3 x4 y2 y1 y3 y4
                refine ⟨cs, d5, d4, fun k => ?_⟩
                rw [em, ec]
                exact tie_mb n7 x2 x5 k
            · rcases d3 with ⟨y1, _⟩ | ⟨y1, y2, y3, _⟩
              · refine rC_0 (by rw [d4, y1]; rfl) ?_
                rw [fb 35 (by omega), x2, f3 35 (by omega)]
                exact rn1_v.2.1
              · have q := (hP (rv (M 1 0).toNat cs) (rv_lt _ n7 cs y2))
                rw [rv_rv _ n7 cs y2] at q
                exact absurd (q.mpr y3) (x1 _ (rv_pos _ n7 cs y2 y1) (rv_lt _ n7 cs y2))
        · omega
      · rcases b2 with ⟨d1, _⟩ | ⟨d1, d2, d3, d4, d5, d6, d7, d8, d9⟩
        · omega
        · refine ⟨by omega, ?_⟩
          have t3 := t2 c1
          have fb : ∀ a, a ≤ 52 ∨ (54 ≤ a ∧ a ≤ 62) ∨ a = 64 → Mb a = Ma a := fun a ha => d4 a (by omega) (by omega) (by omega) (by omega) (by omega)
          have q53 : ∀ j, j ≠ 12 → j ≠ 14 → j ≠ 15 → j ≠ 16 → Mb 53 j = M 53 j := fun j h1 h2 h3 h4 => by rw [d9 j h1 h2 h3 h4, e53]
          have e33 : Mb 33 0 = 1 := by rw [fb 33 (by omega), c3]; exact kp_33.1
          have e331 : Mb 33 1 = s := by rw [fb 33 (by omega), c3]; exact kp_33.2
          have e05 : Mb 0 5 = 1 := by rw [fb 0 (by omega), c3]; exact sx_up_at
          have e35 : Mb 35 0 = 0 := by rw [fb 35 (by omega), c3, kp_0 (by decide) (by decide) (by decide), f2 35 (by omega)]; exact rn1_v.2.1
          have e34 : ∀ d, d < 6 → Mb 34 d = b d := fun d hd => by rw [fb 34 (by omega), c3, kp_34 hd]; exact t3 d hd
          have eb1 : Mb 1 = M 1 := by rw [fb 1 (by omega)]; exact eA1
          have bb : ∀ d, d < 6 → -1 ≤ b d ∧ b d < M 1 1 := fun d hd => by
            rcases b1 with ⟨z, _⟩ | ⟨g, z1, _, _, _, z2, _⟩
            · omega
            · rw [z2 d hd]
              obtain ⟨z3, z4, _⟩ := z1
              rw [eA1] at z3 z4
              by_cases q : d < (M 1 0).toNat
              · exact z3 d q
              · rw [z4 d (by omega) hd]
                omega
          refine rl_mk h (ci_lo (fun a ha => fb a (by omega)) hIa) (fun a ha => (fb a (by omega)).trans (fa a (by omega))) (q53 0 (by decide) (by decide) (by decide) (by decide)) (q53 1 (by decide) (by decide) (by decide) (by decide)) (q53 11 (by decide) (by decide) (by decide) (by decide)) (q53 17 (by decide) (by decide) (by decide) (by decide)) ?_ (by rw [d6, e05]) (rC_0 d8 e35)
          unfold rH
          rw [d5, d7, e33, e331, eb1]
          refine ⟨rfl, fun _ => ⟨fun d hd => by rw [e34 d hd, d3 d hd], fun d hd => by rw [e34 d hd]; exact bb d hd, t1.symm⟩, fun d hd => ?_⟩
          rw [d3 d hd]
          have := bb d hd
          omega
theorem ip_fr {M Ma : sx_M0} {k r : Int} (hI : ci M) (h1 : ipP M Ma k r) : ∀ a, a < 17 ∨ (35 ≤ a ∧ a < 39) ∨ 53 ≤ a → Ma a = M a := by
  rcases h1 with ⟨a1, a2, a3⟩ | ⟨a1, a2, M1, j, a3, a4, a5, a6, a7⟩
  · intro a _
    rw [a3]
  · intro a ha
    rw [a7, sx_up_ne (by omega), a4.1.1 a (by omega) (by omega) (by omega)]
    exact (sc_ld hI (-1)).1 a (by omega)
theorem mid_improve {M Ma : sx_M0} {k r : Int} (h : rl M) (h1 : ipP M Ma k r) : tw Ma ∧ rT Ma ∧ (Ma 53 12 = 0 ∨ Ma 53 12 = 1) ∧ (Ma 53 12 = 1 → ∀ d, d < (Ma 1 0).toNat → -1 ≤ Ma 63 d ∧ Ma 63 d < Ma 1 1) := by
  have f := ip_fr h.1 h1
  obtain ⟨q1, q2⟩ := mid_T h (N := Ma) (fun a ha => f a (by omega))
  have hH := h.2.2.2.1
  have g0 := h.1.1.1
  refine ⟨q1, q2, ?_⟩
  rw [f 53 (by omega), f 63 (by omega), f 1 (by omega), hH.1]
  refine ⟨h.1.2.2.1.1, fun z d hd => ?_⟩
  rw [← (hH.2.1 z).1 d (by omega)]
  exact (hH.2.1 z).2.1 d (by omega)
theorem op_improve {M Ma Mb : sx_M0} {k r1 r2 : Int} (h : rl M) (h1 : ipP M Ma k r1) (h2 : miP Ma Mb k r2) : r1 = r2 ∧ rl Mb := by
  have f := ip_fr h.1 h1
  have hH := h.2.2.2.1
  have h15 := h.2.2.2.2.1
  have h63 := hH.2.2
  have g1 := h.1.1.2.1
  obtain ⟨t1, t2⟩ := tie_improve h.1 rfl (by rw [f 53 (by omega)]; exact hH.1) (fun z => (hH.2.1 z).1) (fun z => (hH.2.1 z).2.1) h1 h2
  refine ⟨t1, ?_⟩
  rcases t2 with ⟨_, t2, t3⟩ | ⟨t2, t3, t4, t5, t6, t7, t8, t9, t10⟩
  · rw [t3, t2]; exact h
  · have fb : ∀ a, a ≤ 52 ∨ (54 ≤ a ∧ a ≤ 62) ∨ a = 64 → Mb a = Ma a := fun a ha => t9 a (by omega) (by omega) (by omega) (by omega)
    have e53 : Ma 53 = M 53 := t3 53 (by omega)
    refine rl_mk h (ci_lo (fun a ha => fb a (by omega)) t4) (fun a ha => (fb a (by omega)).trans (t3 a (by omega))) (by rw [t10 0 (by decide), e53]) (by rw [t10 1 (by decide), e53]) (by rw [t10 11 (by decide), e53]) (by rw [t10 17 (by decide), e53]) ?_ (by rw [t10 15 (by decide), e53, fb 0 (by omega), t3 0 (by omega)]; exact h15) ?_
    · unfold rH
      rw [t10 12 (by decide), e53, fb 33 (by omega), fb 34 (by omega), t5, t8, fb 1 (by omega), t3 1 (by omega)]
      refine ⟨by rw [hH.1, t2], fun _ => ⟨fun d hd => t6 d hd, fun d hd => t7 d hd, rfl⟩, fun d hd => ?_⟩
      have := t7 d hd
      rw [t6 d hd] at this
      omega
    · obtain ⟨u, u1, u2, u3⟩ := h.2.2.2.2.2.1
      refine ⟨u, u1, by rw [t10 16 (by decide), e53]; exact u2, fun k => ?_⟩
      unfold mbS
      rw [fb 35 (by omega), fb 36 (by omega), t3 35 (by omega), t3 36 (by omega)]
      exact u3 k
