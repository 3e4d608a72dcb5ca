/-! the calls that ask -/
theorem rl_fr {M N : sx_M0} (h : rl M) (hI : ci N) (f : ∀ a, a < 17 ∨ (33 ≤ a ∧ a < 39) ∨ (53 ≤ a ∧ a ≤ 64) → N a = M a) : rl N := by
  obtain ⟨hJ, hr, hU, hH, hP, hC, hY⟩ := h
  have g0 := hJ.1.1
  refine ⟨hI, ?_, ?_, ?_, by rw [f 53 (by omega), f 0 (by omega)]; exact hP, ?_, ?_⟩
  · unfold rT at hr ⊢
    rw [f 53 (by omega), f 1 (by omega), f 54 (by omega), f 2 (by omega), f 55 (by omega), f 3 (by omega), f 62 (by omega), f 56 (by omega), f 57 (by omega), f 58 (by omega), f 59 (by omega), f 60 (by omega), f 61 (by omega), f 11 (by omega), f 12 (by omega), f 13 (by omega), f 14 (by omega), f 15 (by omega), f 16 (by omega)]
    refine ⟨hr.1, hr.2.1, hr.2.2.1, hr.2.2.2.1, hr.2.2.2.2.1, fun d p h1 h2 => ?_, hr.2.2.2.2.2.2⟩
    rw [f (4 + 1 + d) (by omega)]
    exact hr.2.2.2.2.2.1 d p h1 h2
  · unfold rU at hU ⊢
    rw [f 1 (by omega), f 55 (by omega), f 62 (by omega)]
    exact hU
  · unfold rH at hH ⊢
    rw [f 53 (by omega), f 33 (by omega), f 34 (by omega), f 63 (by omega), f 1 (by omega)]
    exact hH
  · obtain ⟨u, u1, u2, u3⟩ := hC
    refine ⟨u, u1, by rw [f 53 (by omega)]; exact u2, fun k => ?_⟩
    unfold mbS
    rw [f 35 (by omega), f 36 (by omega)]
    exact u3 k
  · unfold rY at hY ⊢
    rw [f 53 (by omega), f 37 (by omega), f 64 (by omega), f 38 (by omega)]
    exact hY
theorem rl_sc {M N : sx_M0} (h : rl M) (hs : sc M N) : rl N := rl_fr h (ci_sc h.1 hs) (fun a ha => hs.1 a (by omega))
theorem rl_hi {M N : sx_M0} (h : rl M) (f : ∀ a, a ≤ 64 → N a = M a) : rl N := by
  refine rl_fr h ?_ (fun a ha => f a (by omega))
  obtain ⟨hT, hV, hH, h0, hR⟩ := h.1
  refine ⟨tw_fr (fun a ha => f a (by omega)) hT, ?_, hv_sc (M := M) (M' := fun a => if a ≤ 64 then N a else M a) (fun a ha => by by_cases q : a ≤ 64; (rw [if_pos q]; exact f a q); rw [if_neg q]) hH, by rw [f 17 (by decide)]; exact h0, by rw [f 19 (by decide)]; exact hR⟩
  unfold sv at hV ⊢
  rw [f 17 (by decide), f 18 (by decide), f 27 (by decide), f 29 (by decide)]
  refine ⟨hV.1, hV.2.1, hV.2.2.1, fun d p hd hp => ?_, hV.2.2.2.2⟩
  rw [f (20 + 1 + d) (by omega)]
  exact hV.2.2.2.1 d p hd hp
theorem bz_eq {p q : Prop} {b c : Int} (h : p ↔ q) (h1 : (b = 1 ∧ p) ∨ (b = 0 ∧ ¬ p)) (h2 : (c = 1 ∧ q) ∨ (c = 0 ∧ ¬ q)) : b = c := by
  rcases h1 with ⟨a1, a2⟩ | ⟨a1, a2⟩ <;> rcases h2 with ⟨c1, c2⟩ | ⟨c1, c2⟩
  · omega
  · exact absurd (h.mp a2) c2
  · exact absurd (h.mpr c2) a2
  · omega
theorem op_chosen {M : sx_M0} {p : Int} (h : rl M) : ((0 ≤ p ∧ p < M 1 1) ∧ ∃ d : Nat, d < 6 ∧ pfS M (d : Int) = p) ↔ ((0 ≤ p ∧ p < M 53 1) ∧ M 53 12 = 1 ∧ ∃ d : Nat, d < 6 ∧ M 63 d = p) := by
  have hH := h.2.2.2.1
  rw [h.2.1.2.1, hH.1]
  have pf : ∀ d : Nat, d < 6 → M 33 0 = 1 → pfS M (d : Int) = M 34 d := fun d hd h1 => by
    unfold pfS
    rw [if_pos ⟨h1, by omega, by omega⟩]
    rfl
  constructor
  · rintro ⟨h1, d, h2, h3⟩
    by_cases e : M 33 0 = 1
    · rw [pf d h2 e, (hH.2.1 e).1 d h2] at h3
      exact ⟨h1, e, d, h2, h3⟩
    · unfold pfS at h3
      rw [if_neg (fun z => e z.1)] at h3
      omega
  · rintro ⟨h1, e, d, h2, h3⟩
    exact ⟨h1, d, h2, by rw [pf d h2 e, (hH.2.1 e).1 d h2]; exact h3⟩
theorem op_of {M : sx_M0} {d : Int} (h : rl M) : (if 0 ≤ d ∧ d < M 1 0 then pfS M d else -1) = (if M 53 12 = 1 ∧ 0 ≤ d ∧ d < M 53 0 then M 63 d.toNat else -1) := by
  have hH := h.2.2.2.1
  have g0 := h.1.1.1
  rw [h.2.1.1, hH.1]
  by_cases c : 0 ≤ d ∧ d < M 1 0
  · rw [if_pos c]
    unfold pfS
    by_cases e : M 33 0 = 1
    · rw [if_pos ⟨e, by omega, by omega⟩, if_pos ⟨e, c⟩]
      exact (hH.2.1 e).1 d.toNat (by omega)
    · rw [if_neg (fun z => e z.1), if_neg (fun z => e z.1)]
  · rw [if_neg c, if_neg (fun z => c z.2)]
theorem op_sum {M : sx_M0} (h : rl M) : (if M 33 0 = 1 then M 33 1 else -1) = (if M 53 12 = 1 then M 53 14 else -1) := by
  have hH := h.2.2.2.1
  rw [hH.1]
  by_cases e : M 33 0 = 1
  · rw [if_pos e, if_pos e, (hH.2.1 e).2.2]
  · rw [if_neg e, if_neg e]
theorem op_open {M : sx_M0} {p y : Int} (h : rl M) : (if 0 ≤ p ∧ p < M 1 1 then opS M p y else -1) = (if (0 ≤ p ∧ p < M 53 1) ∧ 0 ≤ y ∧ y < M 53 17 then (if (M 64 y.toNat).toNat.testBit p.toNat = true then 1 else 0) else -1) := by
  have hY := h.2.2.2.2.2.2
  have g1 := h.1.1.2.1
  rw [h.2.1.2.1, hY.1]
  by_cases c : 0 ≤ p ∧ p < M 1 1
  · rw [if_pos c]
    unfold opS
    by_cases e : 0 ≤ y ∧ y < M 37 0
    · rw [if_pos (show 0 ≤ y ∧ y < M 37 0 ∧ 0 ≤ p ∧ p < 5 by omega), if_pos (show (0 ≤ p ∧ p < M 1 1) ∧ 0 ≤ y ∧ y < M 37 0 from ⟨c, e⟩), hY.2 y.toNat (by omega)]
    · rw [if_neg (fun z => e ⟨z.1, z.2.1⟩), if_neg (fun z => e z.2)]
  · rw [if_neg c, if_neg (fun z => c z.1)]
theorem rl_yS {M : sx_M0} (h : rl M) : (0 ≤ M 53 17 ∧ M 53 17 ≤ 6) ∧ ∀ y : Nat, (y : Int) < M 53 17 → 0 ≤ M 64 y ∧ M 64 y ≤ 31 := by
  have hY := h.2.2.2.2.2.2
  have hh := h.1.2.2.1
  rw [hY.1]
  refine ⟨hh.2.2.2.2.2.1, fun y hy => ?_⟩
  rw [hY.2 y hy]
  exact hh.2.2.2.2.2.2.1 y (by have := hh.2.2.2.2.2.1; omega)
theorem rl_h12 {M : sx_M0} (h : rl M) : M 53 12 = 0 ∨ M 53 12 = 1 := by rw [h.2.2.2.1.1]; exact h.1.2.2.1.1
theorem rl_h15 {M : sx_M0} (h : rl M) : M 53 15 = 0 ∨ M 53 15 = 1 := by rw [h.2.2.2.2.1]; exact h.1.2.2.1.2.2.2.2.2.2.2
theorem rl_h63 {M : sx_M0} (h : rl M) : ∀ d, d < 6 → sx_r32 (M 63 d) := fun d hd => by
  have := h.2.2.2.1.2.2 d hd
  constructor <;> omega
theorem nT_congr {M N : sx_M0} (h : ∀ a, a ≤ 16 → N a = M a) {d : Nat} (hd : d < 6) : ∀ n, nT N d n = nT M d n
  | 0 => rfl
  | n + 1 => by
    show (if rcS N d n ≠ -1 ∧ (nT N d n = -1 ∨ rcS N d n < nT N d n) then rcS N d n else nT N d n) = (if rcS M d n ≠ -1 ∧ (nT M d n = -1 ∨ rcS M d n < nT M d n) then rcS M d n else nT M d n)
    rw [rc_fr h hd, nT_congr h hd n]
theorem lT_congr {M N : sx_M0} (h : ∀ a, a ≤ 16 → N a = M a) : ∀ n, n ≤ 6 → lT N n = lT M n
  | 0, _ => rfl
  | n + 1, h6 => by
    show lT N n + (if 0 < N 2 n then N 2 n * nT N n (N 1 1).toNat else 0) = lT M n + (if 0 < M 2 n then M 2 n * nT M n (M 1 1).toNat else 0)
    rw [lT_congr h n (by omega), h 2 (by decide), h 1 (by decide), nT_congr h (by omega)]
theorem op_bound {M Ma : sx_M0} {x x' : Int} (h : rl M) (hs : sc M Ma) (h1 : (x = lrS (u31 (ldM M (-1))) (dN (ldM M (-1))) 0 ∧ ∀ d, d < dN (ldM M (-1)) → 0 < ldM M (-1) 18 d → nuS (u31 (ldM M (-1))) d (ldM M (-1) 17 1).toNat ≠ -1) ∨ (x = -1 ∧ ∃ d, d < dN (ldM M (-1)) ∧ 0 < ldM M (-1) 18 d ∧ nuS (u31 (ldM M (-1))) d (ldM M (-1) 17 1).toNat = -1)) (h2 : (x' = lT Ma (Ma 1 0).toNat ∧ ∀ d, d < (Ma 1 0).toNat → 0 < Ma 2 d → nT Ma d (Ma 1 1).toNat ≠ -1) ∨ (x' = -1 ∧ ∃ d, d < (Ma 1 0).toNat ∧ 0 < Ma 2 d ∧ nT Ma d (Ma 1 1).toNat = -1)) : x = x' ∧ (-1 ≤ x ∧ x ≤ 9000000) := by
  have hT := h.1.1
  have g0 := hT.1
  have g1 := hT.2.1
  have f : ∀ a, a ≤ 16 → Ma a = M a := fun a ha => hs.1 a (by omega)
  have h2' : (x' = lT M (M 1 0).toNat ∧ ∀ d, d < (M 1 0).toNat → 0 < M 2 d → nT M d (M 1 1).toNat ≠ -1) ∨ (x' = -1 ∧ ∃ d, d < (M 1 0).toNat ∧ 0 < M 2 d ∧ nT M d (M 1 1).toNat = -1) := by
    rw [f 1 (by decide), f 2 (by decide)] at h2
    rcases h2 with ⟨a1, a2⟩ | ⟨a1, d, a2, a3, a4⟩
    · refine Or.inl ⟨by rw [a1, lT_congr f _ (by omega)], fun d hd hn => ?_⟩
      have := a2 d hd hn
      rw [nT_congr f (by omega)] at this
      exact this
    · exact Or.inr ⟨a1, d, a2, a3, by rw [nT_congr f (by omega)] at a4; exact a4⟩
  have e := tie_bound hT h1 h2'
  refine ⟨e, ?_⟩
  rw [e]
  rcases h2' with ⟨a1, a2⟩ | ⟨a1, _⟩
  · have : ∀ n, n ≤ (M 1 0).toNat → 0 ≤ lT M n ∧ lT M n ≤ 1500000 * (n : Int) := fun n => by
      induction n with
      | zero => intro _; exact ⟨Int.le_refl 0, Int.le_refl 0⟩
      | succ n ih =>
        intro hn
        have i := ih (by omega)
        have q := hT.2.2.2.1 n (by omega)
        have b := nT_bd hT (d := n) (by omega) (M 1 1).toNat (by omega)
        show 0 ≤ lT M n + (if 0 < M 2 n then M 2 n * nT M n (M 1 1).toNat else 0) ∧ lT M n + (if 0 < M 2 n then M 2 n * nT M n (M 1 1).toNat else 0) ≤ _
        by_cases c : 0 < M 2 n
        · rw [if_pos c]
          have nn := a2 n (by omega) c
          have m := mul_bd (a := M 2 n) (b := nT M n (M 1 1).toNat) (by omega) (by omega) (by omega) b.2
          omega
        · rw [if_neg c]
          omega
    have := this (M 1 0).toNat (Nat.le_refl _)
    omega
  · omega
/-- what lies in the search's cells after load, and after a search -/
theorem ls_Q {L M2 : sx_M0} (h : lsF L M2) : ∀ a, a = 17 ∨ a = 18 ∨ a = 19 ∨ (21 ≤ a ∧ a ≤ 27) → M2 a = L a ∨ (a = 17 ∧ M2 17 0 = L 17 0 ∧ M2 17 1 = L 17 1) := fun a ha => by
  by_cases e : a = 17
  · exact Or.inr ⟨e, h.2 0 (by decide) (by decide), h.2 1 (by decide) (by decide)⟩
  · exact Or.inl (h.1 a e (by omega) (by omega) (by omega) (by omega))
theorem op_gain {M Ma : sx_M0} {p x x' : Int} (h : rl M) (hs : sc M Ma) (h1 : (¬ (0 ≤ p ∧ p < M 1 1) ∧ x = -1) ∨ (0 ≤ p ∧ p < M 1 1 ∧ ∃ y bg, bstP (jW (ldM M (-1)) 31) (ldM M (-1) 19) 0 y bg ∧ ((y = -1 ∧ x = -1) ∨ (y ≠ -1 ∧ ∃ M1, sc M M1 ∧ ∃ z bz, bstP (jW (ldM M1 p) 31) (ldM M1 p 19) 0 z bz ∧ x = y - z)))) (h2 : (¬ (0 ≤ p ∧ p < Ma 1 1) ∧ x' = -1) ∨ (0 ≤ p ∧ p < Ma 1 1 ∧ ∃ y b, bsR Ma (akS Ma (2 ^ (Ma 1 0).toNat - 1) 0) (-1) 0 y (fun _ => True) b ∧ ((y < 0 ∧ x' = -1) ∨ (0 ≤ y ∧ ∃ z b2, bsR Ma (akS Ma (2 ^ (Ma 1 0).toNat - 1) 0) p 0 z (fun _ => True) b2 ∧ x' = y - z)))) : x = x' ∧ (-9000000 ≤ x' ∧ x' ≤ 9000001) := by
  have hT := h.1.1
  have f : ∀ a, a ≤ 16 → Ma a = M a := fun a ha => hs.1 a (by omega)
  have f1 : fr1 M Ma := fun a _ ha => f a ha
  rw [f 1 (by decide)] at h2
  rcases h1 with ⟨a1, a2⟩ | ⟨a1, a2, y, bg, a3, a4⟩
  · rcases h2 with ⟨b1, b2⟩ | ⟨b1, b2, _⟩
    · exact ⟨by omega, by omega⟩
    · exact absurd ⟨b1, b2⟩ a1
  · rcases h2 with ⟨b1, _⟩ | ⟨b1, b2, y', b, b3, b4⟩
    · exact absurd ⟨a1, a2⟩ b1
    · have ey := (tie_ld hT f1 (fun a _ => Or.inl rfl) a3 (by rw [f 1 (by decide)]; exact b3)).1
      have yb := se_bd b3
      rcases a4 with ⟨a4, a5⟩ | ⟨a4, M1, a5, z, bzz, a6, a7⟩
      · rcases b4 with ⟨_, b5⟩ | ⟨b5, _⟩
        · exact ⟨by omega, by omega⟩
        · omega
      · rcases b4 with ⟨b5, _⟩ | ⟨b5, z', bb, b6, b7⟩
        · omega
        · have hT1 : tw M1 := (ci_sc h.1 a5).1
          have f2 : fr1 M1 Ma := fun a h1 h2 => by rw [f a h2, a5.1 a (by omega)]
          have ez := (tie_ld hT1 f2 (fun a _ => Or.inl rfl) a6 (by rw [f 1 (by decide)]; exact b6)).1
          have zb := se_bd b6
          exact ⟨by omega, by omega⟩
theorem op_years {M Ma Mb : sx_M0} {k x x' : Int} (h : rl M) (h1 : (1 ≤ k ∧ k ≤ 6 ∧ loP M Ma k.toNat x) ∨ (¬ (1 ≤ k ∧ k ≤ 6) ∧ x = -1 ∧ Ma = M)) (h2 : (¬ (1 ≤ k ∧ k ≤ 6) ∧ x' = -1 ∧ Mb = Ma) ∨ (1 ≤ k ∧ k ≤ 6 ∧ myP Ma Mb k.toNat x')) : x = x' ∧ rl Mb := by
  rcases h1 with ⟨a1, a2, a3⟩ | ⟨a1, a2, a3⟩
  · rcases h2 with ⟨b1, _⟩ | ⟨b1, b2, b3⟩
    · exact absurd ⟨a1, a2⟩ b1
    · obtain ⟨c1, c2⟩ := lo_ci h.1 (by omega) a3
      obtain ⟨t1, t2, t3⟩ := tie_years h.1 (fun a h1 h2 => c2 a (by omega)) (by omega) (by omega) a3 b3
      refine ⟨t1, ?_⟩
      obtain ⟨hJ, hr, hU, hH, hP, hC, hY⟩ := h
      have e53 : ∀ b, b ≠ 17 → Mb 53 b = M 53 b := fun b hb => by
        rw [← c2 53 (by omega)]
        rcases t2 with ⟨_, _, t2, _⟩ | ⟨_, _, t2, _⟩
        · rw [t2]
        · exact t2 b hb
      have e0 : ∀ a, a < 17 ∨ (33 ≤ a ∧ a < 37) ∨ (54 ≤ a ∧ a ≤ 63) → Mb a = M a := fun a ha => by
        rw [t3 a (by omega) (by omega) (by omega) (by omega) (by omega) (by omega) (by omega)]
        exact c2 a (by omega)
      have eA : ∀ a, a ≤ 52 → Mb a = Ma a := fun a ha => t3 a (by omega) (by omega) (by omega) (by omega) (by omega) (by omega) (by omega)
      have g0 := hJ.1.1
      have hIb : ci Mb := by
        obtain ⟨k1, k2, k3, k4, k5⟩ := c1
        refine ⟨tw_fr (fun a ha => eA a (by omega)) k1, ?_, ?_, by rw [eA 17 (by decide)]; exact k4, by rw [eA 19 (by decide)]; exact k5⟩
        · unfold sv at k2 ⊢
          rw [eA 17 (by decide), eA 18 (by decide), eA 27 (by decide), eA 29 (by decide)]
          refine ⟨k2.1, k2.2.1, k2.2.2.1, fun d p hd hp => ?_, k2.2.2.2.2⟩
          rw [eA (20 + 1 + d) (by omega)]
          exact k2.2.2.2.1 d p hd hp
        · unfold hv at k3 ⊢
          rw [eA 33 (by decide), eA 34 (by decide), eA 35 (by decide), eA 36 (by decide), eA 37 (by decide), eA 38 (by decide), eA 0 (by decide)]
          exact k3
      refine ⟨hIb, ?_, ?_, ?_, by rw [e53 15 (by decide), e0 0 (by omega)]; exact hP, ?_, ?_⟩
      · unfold rT at hr ⊢
        rw [e53 0 (by decide), e53 1 (by decide), e53 11 (by decide), e0 1 (by omega), e0 54 (by omega), e0 2 (by omega), e0 55 (by omega), e0 3 (by omega), e0 62 (by omega), e0 56 (by omega), e0 57 (by omega), e0 58 (by omega), e0 59 (by omega), e0 60 (by omega), e0 61 (by omega), e0 11 (by omega), e0 12 (by omega), e0 13 (by omega), e0 14 (by omega), e0 15 (by omega), e0 16 (by omega)]
        refine ⟨hr.1, hr.2.1, hr.2.2.1, hr.2.2.2.1, hr.2.2.2.2.1, fun d p h1 h2 => ?_, hr.2.2.2.2.2.2⟩
        rw [e0 (4 + 1 + d) (by omega)]
        exact hr.2.2.2.2.2.1 d p h1 h2
      · unfold rU at hU ⊢
        rw [e0 1 (by omega), e0 55 (by omega), e0 62 (by omega)]
        exact hU
      · unfold rH at hH ⊢
        rw [e53 12 (by decide), e53 14 (by decide), e0 33 (by omega), e0 34 (by omega), e0 63 (by omega), e0 1 (by omega)]
        exact hH
      · obtain ⟨u, u1, u2, u3⟩ := hC
        refine ⟨u, u1, by rw [e53 16 (by decide)]; exact u2, fun k => ?_⟩
        unfold mbS
        rw [e0 35 (by omega), e0 36 (by omega)]
        exact u3 k
      · unfold rY at hY ⊢
        rcases t2 with ⟨t4, t5, t6, t7⟩ | ⟨t4, t5, t6, t7⟩
        · rw [eA 37 (by decide), eA 38 (by decide), t4, t5, t6, t7, c2 53 (by omega), c2 64 (by omega)]
          exact hY
        · rw [eA 37 (by decide), eA 38 (by decide), t4, t5]
          refine ⟨rfl, fun j hj => ?_⟩
          exact ((t7 j (by omega)).1).symm
  · rcases h2 with ⟨b1, b2, b3⟩ | ⟨b1, b2, _⟩
    · subst a3 b3
      exact ⟨by omega, h⟩
    · exact absurd ⟨b1, b2⟩ a1
