/-! each pair of calls: the same answer, and the relation holds again. First the calls that tell something -/
theorem rl_D {M : sx_M0} (h : rl M) : 0 ≤ M 53 0 ∧ M 53 0 ≤ 6 := rT_D h.1.1 h.2.1
theorem rl_P {M : sx_M0} (h : rl M) : 0 ≤ M 53 1 ∧ M 53 1 ≤ 5 := rT_P h.1.1 h.2.1
abbrev cW (M : sx_M0) (d p x : Int) : Prop := 0 ≤ d ∧ d < M 1 0 ∧ 0 ≤ p ∧ p < M 1 1 ∧ 0 ≤ x ∧ x ≤ 10000
theorem mid_walk {M Ma : sx_M0} {d p x : Int} (h : rl M) (a2 : Ma = if 0 ≤ d ∧ d < M 1 0 ∧ 0 ≤ p ∧ p < M 1 1 ∧ 0 ≤ x ∧ x ≤ 10000 then sx_up (sx_up M (4 + 1 + d.toNat) p.toNat x) 0 5 0 else M) : Ma 53 = M 53 := by
  have g0 := h.1.1.1
  by_cases c : 0 ≤ d ∧ d < M 1 0 ∧ 0 ≤ p ∧ p < M 1 1 ∧ 0 ≤ x ∧ x ≤ 10000
  · rw [a2, if_pos c, sx_up_ne (by decide), sx_up_ne (by omega)]
  · rw [a2, if_neg c]
theorem op_walk {M Ma Mb : sx_M0} {d p x r1 r2 : Int} (h : rl M) (a1 : r1 = if 0 ≤ d ∧ d < M 1 0 ∧ 0 ≤ p ∧ p < M 1 1 ∧ 0 ≤ x ∧ x ≤ 10000 then 1 else 0) (a2 : Ma = if 0 ≤ d ∧ d < M 1 0 ∧ 0 ≤ p ∧ p < M 1 1 ∧ 0 ≤ x ∧ x ≤ 10000 then sx_up (sx_up M (4 + 1 + d.toNat) p.toNat x) 0 5 0 else M) (b1 : r2 = if 0 ≤ d ∧ d < Ma 53 0 ∧ 0 ≤ p ∧ p < Ma 53 1 ∧ 0 ≤ x ∧ x ≤ 10000 then 1 else 0) (b2 : Mb = if 0 ≤ d ∧ d < Ma 53 0 ∧ 0 ≤ p ∧ p < Ma 53 1 ∧ 0 ≤ x ∧ x ≤ 10000 then sx_up (sx_up Ma 62 (5 * d.toNat + p.toNat) x) 53 15 0 else Ma) : r1 = r2 ∧ rl Mb := by
  have hT := h.1.1
  have g0 := hT.1
  have g1 := hT.2.1
  rw [mid_walk h a2, h.2.1.1, h.2.1.2.1] at b1 b2
  by_cases c : 0 ≤ d ∧ d < M 1 0 ∧ 0 ≤ p ∧ p < M 1 1 ∧ 0 ≤ x ∧ x ≤ 10000
  · rw [if_pos c] at a1 a2 b1 b2
    subst a2 b2
    refine ⟨by omega, rl_s2 h (tw_up hT (by omega)) (by omega) (by omega) (fun z => by omega) (fun z => by omega) (fun c1 i1 c2 i2 hh => by omega) (fun d2 p2 h1 h2 => by omega) (fun d2 h1 h2 => ⟨by omega, fun p2 h3 => by omega⟩)⟩
  · rw [if_neg c] at a1 a2 b1 b2
    subst a2 b2
    exact ⟨by omega, h⟩
theorem mid_bar {M Ma : sx_M0} {p : Int} (h : rl M) (a2 : Ma = if 0 ≤ p ∧ p < M 1 1 ∧ M 16 p.toNat = 0 then sx_up (sx_up M 16 p.toNat 1) 0 5 0 else M) : Ma 53 = M 53 ∧ Ma 61 = M 61 := by
  by_cases c : 0 ≤ p ∧ p < M 1 1 ∧ M 16 p.toNat = 0
  · rw [a2, if_pos c]
    exact ⟨by rw [sx_up_ne (by decide), sx_up_ne (by decide)], by rw [sx_up_ne (by decide), sx_up_ne (by decide)]⟩
  · rw [a2, if_neg c]
    exact ⟨rfl, rfl⟩
theorem op_bar {M Ma Mb : sx_M0} {p r1 r2 : Int} (h : rl M) (a1 : r1 = if 0 ≤ p ∧ p < M 1 1 ∧ M 16 p.toNat = 0 then 1 else 0) (a2 : Ma = if 0 ≤ p ∧ p < M 1 1 ∧ M 16 p.toNat = 0 then sx_up (sx_up M 16 p.toNat 1) 0 5 0 else M) (b1 : r2 = if 0 ≤ p ∧ p < Ma 53 1 ∧ Ma 61 p.toNat = 0 then 1 else 0) (b2 : Mb = if 0 ≤ p ∧ p < Ma 53 1 ∧ Ma 61 p.toNat = 0 then sx_up (sx_up Ma 61 p.toNat 1) 53 15 0 else Ma) : r1 = r2 ∧ rl Mb := by
  have hT := h.1.1
  have g1 := hT.2.1
  obtain ⟨e1, e2⟩ := mid_bar h a2
  rw [e1, e2, h.2.1.2.1] at b1 b2
  by_cases c0 : 0 ≤ p ∧ p < M 1 1
  · have e6 := (h.2.1.2.2.2.2.2.2 p.toNat (by omega)).2.2.2.2.2
    rw [e6] at b1 b2
    by_cases c : 0 ≤ p ∧ p < M 1 1 ∧ M 16 p.toNat = 0
    · rw [if_pos c] at a1 a2 b1 b2
      subst a2 b2
      exact ⟨by omega, rl_s2 h (tw_up hT (by omega)) (by omega) (by omega) (fun z => by omega) (fun z => by omega) (fun c1 i1 c2 i2 hh => by omega) (fun d2 p2 h1 h2 => by omega) (fun d2 h1 h2 => ⟨by omega, fun p2 h3 => by omega⟩)⟩
    · rw [if_neg c] at a1 a2 b1 b2
      subst a2 b2
      exact ⟨by omega, h⟩
  · rw [if_neg (fun z => c0 ⟨z.1, z.2.1⟩)] at a1 a2 b1 b2
    subst a2 b2
    exact ⟨by omega, h⟩
theorem mid_noise {M Ma : sx_M0} {p x : Int} (h : rl M) (a2 : Ma = if 0 ≤ p ∧ p < M 1 1 ∧ 0 ≤ x ∧ x ≤ 3000 then sx_up (sx_up M 15 p.toNat x) 0 5 0 else M) : Ma 53 = M 53 := by
  by_cases c : 0 ≤ p ∧ p < M 1 1 ∧ 0 ≤ x ∧ x ≤ 3000
  · rw [a2, if_pos c, sx_up_ne (by decide), sx_up_ne (by decide)]
  · rw [a2, if_neg c]
theorem op_noise {M Ma Mb : sx_M0} {p x r1 r2 : Int} (h : rl M) (a1 : r1 = if 0 ≤ p ∧ p < M 1 1 ∧ 0 ≤ x ∧ x ≤ 3000 then 1 else 0) (a2 : Ma = if 0 ≤ p ∧ p < M 1 1 ∧ 0 ≤ x ∧ x ≤ 3000 then sx_up (sx_up M 15 p.toNat x) 0 5 0 else M) (b1 : r2 = if 0 ≤ p ∧ p < Ma 53 1 ∧ 0 ≤ x ∧ x ≤ 3000 then 1 else 0) (b2 : Mb = if 0 ≤ p ∧ p < Ma 53 1 ∧ 0 ≤ x ∧ x ≤ 3000 then sx_up (sx_up Ma 60 p.toNat x) 53 15 0 else Ma) : r1 = r2 ∧ rl Mb := by
  have hT := h.1.1
  have g1 := hT.2.1
  rw [mid_noise h a2, h.2.1.2.1] at b1 b2
  by_cases c : 0 ≤ p ∧ p < M 1 1 ∧ 0 ≤ x ∧ x ≤ 3000
  · rw [if_pos c] at a1 a2 b1 b2
    subst a2 b2
    exact ⟨by omega, rl_s2 h (tw_up hT (by omega)) (by omega) (by omega) (fun z => by omega) (fun z => by omega) (fun c1 i1 c2 i2 hh => by omega) (fun d2 p2 h1 h2 => by omega) (fun d2 h1 h2 => ⟨by omega, fun p2 h3 => by omega⟩)⟩
  · rw [if_neg c] at a1 a2 b1 b2
    subst a2 b2
    exact ⟨by omega, h⟩
theorem op_budget {M Ma Mb : sx_M0} {x r1 r2 : Int} (h : rl M) (a1 : r1 = if 0 ≤ x ∧ x ≤ 10000000 then 1 else 0) (a2 : Ma = if 0 ≤ x ∧ x ≤ 10000000 then sx_up (sx_up M 1 2 x) 0 5 0 else M) (b1 : r2 = if 0 ≤ x ∧ x ≤ 10000000 then 1 else 0) (b2 : Mb = if 0 ≤ x ∧ x ≤ 10000000 then sx_up (sx_up Ma 53 11 x) 53 15 0 else Ma) : r1 = r2 ∧ rl Mb := by
  have hT := h.1.1
  by_cases c : 0 ≤ x ∧ x ≤ 10000000
  · rw [if_pos c] at a1 a2 b1 b2
    subst a2 b2
    exact ⟨by omega, rl_s2 h (tw_up hT (by omega)) (by omega) (by omega) (fun z => by omega) (fun z => by omega) (fun c1 i1 c2 i2 hh => by omega) (fun d2 p2 h1 h2 => by omega) (fun d2 h1 h2 => ⟨by omega, fun p2 h3 => by omega⟩)⟩
  · rw [if_neg c] at a1 a2 b1 b2
    subst a2 b2
    exact ⟨by omega, h⟩
theorem mid_fair {M Ma : sx_M0} {d x : Int} (h : rl M) (a2 : Ma = if 0 ≤ d ∧ d < M 1 0 ∧ 0 ≤ x ∧ x ≤ 10000 then sx_up (sx_up M 3 d.toNat x) 0 5 0 else M) : Ma 53 = M 53 := by
  by_cases c : 0 ≤ d ∧ d < M 1 0 ∧ 0 ≤ x ∧ x ≤ 10000
  · rw [a2, if_pos c, sx_up_ne (by decide), sx_up_ne (by decide)]
  · rw [a2, if_neg c]
theorem op_fair {M Ma Mb : sx_M0} {d x r1 r2 : Int} (h : rl M) (a1 : r1 = if 0 ≤ d ∧ d < M 1 0 ∧ 0 ≤ x ∧ x ≤ 10000 then 1 else 0) (a2 : Ma = if 0 ≤ d ∧ d < M 1 0 ∧ 0 ≤ x ∧ x ≤ 10000 then sx_up (sx_up M 3 d.toNat x) 0 5 0 else M) (b1 : r2 = if 0 ≤ d ∧ d < Ma 53 0 ∧ 0 ≤ x ∧ x ≤ 10000 then 1 else 0) (b2 : Mb = if 0 ≤ d ∧ d < Ma 53 0 ∧ 0 ≤ x ∧ x ≤ 10000 then sx_up (sx_up Ma 55 d.toNat x) 53 15 0 else Ma) : r1 = r2 ∧ rl Mb := by
  have hT := h.1.1
  have g0 := hT.1
  rw [mid_fair h a2, h.2.1.1] at b1 b2
  by_cases c : 0 ≤ d ∧ d < M 1 0 ∧ 0 ≤ x ∧ x ≤ 10000
  · rw [if_pos c] at a1 a2 b1 b2
    subst a2 b2
    exact ⟨by omega, rl_s2 h (tw_up hT (by omega)) (by omega) (by omega) (fun z => by omega) (fun z => by omega) (fun c1 i1 c2 i2 hh => by omega) (fun d2 p2 h1 h2 => by omega) (fun d2 h1 h2 => ⟨by omega, fun p2 h3 => by omega⟩)⟩
  · rw [if_neg c] at a1 a2 b1 b2
    subst a2 b2
    exact ⟨by omega, h⟩
/-! district and place -/
theorem fl_P {P : Int → Prop} {M : sx_M0} {k n c b : Nat} {v : Int} (h : P (M c b)) (hx : c = k → b < n → P v) : P (flS M k n v c b) := by
  unfold flS
  by_cases e : c = k ∧ b < n
  · rw [if_pos e]; exact hx e.1 e.2
  · rw [if_neg e]; exact h
theorem tw_fl {M : sx_M0} {k : Nat} (hT : tw M) (hk : 5 ≤ k ∧ k ≤ 10) : tw (flS M k 5 (-1)) := by
  obtain ⟨t1, t2, t3, t4, t5, t6, t7, t8, t9, t10, t11, t12⟩ := hT
  exact ⟨fl_P (P := fun v => 0 ≤ v ∧ v ≤ 6) t1 (fun _ _ => by omega), fl_P (P := fun v => 0 ≤ v ∧ v ≤ 5) t2 (fun _ _ => by omega), fl_P (P := fun v => 0 ≤ v ∧ v ≤ 10000000) t3 (fun _ _ => by omega),
    fun d hd => fl_P (P := fun v => 0 ≤ v ∧ v ≤ 100) (t4 d hd) (fun _ _ => by omega), fun d hd => fl_P (P := fun v => 0 ≤ v ∧ v ≤ 10000) (t5 d hd) (fun _ _ => by omega),
    fun d p hd hp => fl_P (P := fun v => -1 ≤ v ∧ v ≤ 10000) (t6 d p hd hp) (fun _ _ => by omega), fun p hp => fl_P (P := fun v => -1000 ≤ v ∧ v ≤ 1000) (t7 p hp) (fun _ _ => by omega), fun p hp => fl_P (P := fun v => -1000 ≤ v ∧ v ≤ 1000) (t8 p hp) (fun _ _ => by omega), fun p hp => fl_P (P := fun v => 0 ≤ v ∧ v ≤ 1000000) (t9 p hp) (fun _ _ => by omega), fun p hp => fl_P (P := fun v => 0 ≤ v ∧ v ≤ 1000) (t10 p hp) (fun _ _ => by omega), fun p hp => fl_P (P := fun v => 0 ≤ v ∧ v ≤ 3000) (t11 p hp) (fun _ _ => by omega), fun p hp => fl_P (P := fun v => v = 0 ∨ v = 1) (t12 p hp) (fun _ _ => by omega)⟩
theorem np_c {M : sx_M0} {c i : Nat} (h : 1 ≤ c) : np M c i = M c i := congrFun (sx_up_ne (by omega)) i
theorem ad_v {M : sx_M0} {x : Int} {c i : Nat} (hc : 1 ≤ c) : adM (np M) x c i = if c = 1 ∧ i = 0 then M 1 0 + 1 else if c = 4 + 1 + (M 1 0).toNat ∧ i < 5 then -1 else if c = 3 ∧ i = (M 1 0).toNat then 10000 else if c = 2 ∧ i = (M 1 0).toNat then x else M c i := by
  unfold adM
  rw [show np M 1 0 = M 1 0 from np_c (by decide)]
  show (if c = 1 ∧ i = 0 then M 1 0 + 1 else if c = 4 + 1 + (M 1 0).toNat ∧ i < 5 then -1 else if c = 3 ∧ i = (M 1 0).toNat then 10000 else if c = 2 ∧ i = (M 1 0).toNat then x else np M c i) = _
  rw [np_c hc]
theorem mid_district {M Ma : sx_M0} {x : Int} (h : rl M) (a2 : Ma = if M 1 0 < 6 ∧ 0 ≤ x ∧ x ≤ 100 then adM (np M) x else M) : ∀ c, 11 ≤ c → Ma c = M c := fun c hc => by
  have g0 := h.1.1.1
  by_cases q : M 1 0 < 6 ∧ 0 ≤ x ∧ x ≤ 100
  · rw [a2, if_pos q]
    funext i
    rw [ad_v (by omega), if_neg (by omega), if_neg (by omega), if_neg (by omega), if_neg (by omega)]
  · rw [a2, if_neg q]
theorem op_district {M Ma Mb : sx_M0} {x r1 r2 : Int} (h : rl M) (a1 : r1 = if M 1 0 < 6 ∧ 0 ≤ x ∧ x ≤ 100 then M 1 0 else -1) (a2 : Ma = if M 1 0 < 6 ∧ 0 ≤ x ∧ x ≤ 100 then adM (np M) x else M) (b1 : r2 = if Ma 53 0 ≠ 6 ∧ 0 ≤ x ∧ x ≤ 100 then Ma 53 0 else -1) (b2 : Mb = if Ma 53 0 ≠ 6 ∧ 0 ≤ x ∧ x ≤ 100 then mdM Ma x else Ma) : r1 = r2 ∧ rl Mb := by
  have hT := h.1.1
  have g0 := hT.1
  have g1 := hT.2.1
  have e53 := mid_district h a2 53 (by decide)
  have hr := h.2.1
  have hU := h.2.2.1
  rw [e53, hr.1] at b1 b2
  by_cases c : M 1 0 < 6 ∧ 0 ≤ x ∧ x ≤ 100
  · rw [if_pos c] at a1 a2
    rw [if_pos (show M 1 0 ≠ 6 ∧ 0 ≤ x ∧ x ≤ 100 by omega)] at b1 b2
    refine ⟨by omega, ?_⟩
    have eA : ∀ a, 11 ≤ a → Ma a = M a := mid_district h (by rw [if_pos c]; exact a2)
    have vc : ∀ a i, 1 ≤ a → a ≤ 52 → Mb a i = if a = 1 ∧ i = 0 then M 1 0 + 1 else if a = 4 + 1 + (M 1 0).toNat ∧ i < 5 then -1 else if a = 3 ∧ i = (M 1 0).toNat then 10000 else if a = 2 ∧ i = (M 1 0).toNat then x else M a i := fun a i h1 h2 => by
      rw [b2]
      unfold mdM
      rw [sx_up_ne (by omega), sx_up_ne (by omega), sx_up_ne (by omega), a2]
      exact ad_v h1
    have vm : ∀ a i, 53 ≤ a → ¬ (a = 53 ∧ i = 15) → Mb a i = if a = 53 ∧ i = 0 then M 1 0 + 1 else if a = 54 ∧ i = (M 1 0).toNat then x else M a i := fun a i h1 h2 => by
      rw [b2]
      unfold mdM
      rw [e53, hr.1]
      show (if a = 53 ∧ i = 15 then 0 else if a = 53 ∧ i = 0 then M 1 0 + 1 else if a = 54 ∧ i = (M 1 0).toNat then x else Ma a i) = _
      rw [if_neg h2, eA a (by omega)]
    have e10 : Mb 1 0 = M 1 0 + 1 := by rw [vc 1 0 (by decide) (by decide), if_pos ⟨rfl, rfl⟩]
    have e11 : Mb 1 1 = M 1 1 := by rw [vc 1 1 (by decide) (by decide), if_neg (by omega), if_neg (by omega), if_neg (by omega), if_neg (by omega)]
    have hTA : tw Ma := by
      rw [a2]
      unfold adM
      rw [show np M 1 0 = M 1 0 from np_c (by decide)]
      exact tw_up (tw_fl (tw_up (tw_up (tw_fr1 (fun a h1 _ => sx_up_ne (by omega)) hT) (by omega)) (by omega)) (by omega)) (by omega)
    have hTB : tw Mb := tw_fr1 (fun a h1 h2 => by
      rw [b2]
      unfold mdM
      rw [sx_up_ne (by omega), sx_up_ne (by omega), sx_up_ne (by omega)]) hTA
    have m53 : ∀ b, b ≠ 15 → b ≠ 0 → Mb 53 b = M 53 b := fun b h1 h2 => by rw [vm 53 b (by decide) (by omega), if_neg (by omega), if_neg (by omega)]
    have mm : ∀ a, 55 ≤ a → Mb a = M a := fun a ha => by
      funext i
      rw [vm a i (by omega) (by omega), if_neg (by omega), if_neg (by omega)]
    have cc : ∀ a, 11 ≤ a → a ≤ 52 → Mb a = M a := fun a h1 h2 => by
      funext i
      rw [vc a i (by omega) h2, if_neg (by omega), if_neg (by omega), if_neg (by omega), if_neg (by omega)]
    refine rl_set h hTB ?_ ?_ (fun a h1 h2 => cc a (by omega) h2) ?_ (mm 63 (by decide)) (mm 64 (by decide)) (m53 12 (by decide) (by decide)) (m53 14 (by decide) (by decide)) ?_ (m53 16 (by decide) (by decide)) (m53 17 (by decide) (by decide)) (by omega)
    · unfold rT
      rw [e10, e11, cc 11 (by decide) (by decide), cc 12 (by decide) (by decide), cc 13 (by decide) (by decide), cc 14 (by decide) (by decide), cc 15 (by decide) (by decide), cc 16 (by decide) (by decide), mm 55 (by decide), mm 56 (by decide), mm 57 (by decide), mm 58 (by decide), mm 59 (by decide), mm 60 (by decide), mm 61 (by decide), mm 62 (by decide)]
      refine ⟨by rw [vm 53 0 (by decide) (by omega), if_pos ⟨rfl, rfl⟩], by rw [m53 1 (by decide) (by decide)]; exact hr.2.1, ?_, fun d hd => ?_, fun d hd => ?_, fun d p hd hp => ?_, hr.2.2.2.2.2.2⟩
      · rw [m53 11 (by decide) (by decide), vc 1 2 (by decide) (by decide), if_neg (by omega), if_neg (by omega), if_neg (by omega), if_neg (by omega)]
        exact hr.2.2.1
      · rw [vm 54 d (by decide) (by omega), vc 2 d (by decide) (by decide), if_neg (show ¬ (54 = 53 ∧ d = 0) by omega), if_neg (show ¬ (2 = 1 ∧ d = 0) by omega), if_neg (show ¬ (2 = 4 + 1 + (M 1 0).toNat ∧ d < 5) by omega), if_neg (show ¬ (2 = 3 ∧ d = (M 1 0).toNat) by omega)]
        by_cases e : d = (M 1 0).toNat
        · rw [if_pos ⟨rfl, e⟩, if_pos ⟨rfl, e⟩]
        · rw [if_neg (by omega), if_neg (by omega)]
          exact hr.2.2.2.1 d hd
      · rw [vc 3 d (by decide) (by decide), if_neg (by omega), if_neg (by omega)]
        by_cases e : d = (M 1 0).toNat
        · rw [if_pos ⟨rfl, e⟩]
          exact (hU d (by omega) (by omega)).1
        · rw [if_neg (by omega), if_neg (by omega)]
          exact hr.2.2.2.2.1 d (by omega)
      · rw [vc (4 + 1 + d) p (by omega) (by omega), if_neg (by omega)]
        by_cases e : d = (M 1 0).toNat
        · rw [if_pos ⟨by omega, hp⟩]
          exact (hU d (by omega) (by omega)).2 p hp
        · rw [if_neg (by omega), if_neg (by omega), if_neg (by omega)]
          exact hr.2.2.2.2.2.1 d p (by omega) hp
    · intro d hd hm
      rw [e10] at hm
      rw [mm 55 (by decide), mm 62 (by decide)]
      exact hU d hd (by omega)
    · rw [b2]
      unfold mdM
      rw [sx_up_ne (by decide), sx_up_ne (by decide), sx_up_ne (by decide), a2]
      unfold adM
      rw [sx_up_ne (by decide)]
      show flS _ _ 5 (-1) 0 5 = 0
      unfold flS
      rw [if_neg (by omega), sx_up_ne (by decide), sx_up_ne (by decide)]
      exact sx_up_at
    · rw [b2]; exact sx_up_at
  · rw [if_neg c] at a1 a2
    rw [if_neg (show ¬ (M 1 0 ≠ 6 ∧ 0 ≤ x ∧ x ≤ 100) by omega)] at b1 b2
    subst a2 b2
    exact ⟨by omega, h⟩
theorem ap_v {M : sx_M0} {x y c q : Int} {a i : Nat} (ha : 1 ≤ a) : apM (np M) x y c q a i = if a = 1 ∧ i = 1 then M 1 1 + 1 else if a = 14 ∧ i = (M 1 1).toNat then q else if a = 13 ∧ i = (M 1 1).toNat then c else if a = 12 ∧ i = (M 1 1).toNat then y else if a = 11 ∧ i = (M 1 1).toNat then x else M a i := by
  unfold apM
  rw [show np M 1 1 = M 1 1 from np_c (by decide)]
  show (if a = 1 ∧ i = 1 then M 1 1 + 1 else if a = 14 ∧ i = (M 1 1).toNat then q else if a = 13 ∧ i = (M 1 1).toNat then c else if a = 12 ∧ i = (M 1 1).toNat then y else if a = 11 ∧ i = (M 1 1).toNat then x else np M a i) = _
  rw [np_c ha]
abbrev cP (M : sx_M0) (x y c q : Int) : Prop := M 1 1 < 5 ∧ -1000 ≤ x ∧ x ≤ 1000 ∧ -1000 ≤ y ∧ y ≤ 1000 ∧ 0 ≤ c ∧ c ≤ 1000000 ∧ 0 ≤ q ∧ q ≤ 1000
theorem mid_place {M Ma : sx_M0} {x y c q : Int} (h : rl M) (a2 : Ma = if M 1 1 < 5 ∧ -1000 ≤ x ∧ x ≤ 1000 ∧ -1000 ≤ y ∧ y ≤ 1000 ∧ 0 ≤ c ∧ c ≤ 1000000 ∧ 0 ≤ q ∧ q ≤ 1000 then apM (np M) x y c q else M) : ∀ a, 15 ≤ a → Ma a = M a := fun a ha => by
  by_cases z : M 1 1 < 5 ∧ -1000 ≤ x ∧ x ≤ 1000 ∧ -1000 ≤ y ∧ y ≤ 1000 ∧ 0 ≤ c ∧ c ≤ 1000000 ∧ 0 ≤ q ∧ q ≤ 1000
  · rw [a2, if_pos z]
    funext i
    rw [ap_v (by omega), if_neg (by omega), if_neg (by omega), if_neg (by omega), if_neg (by omega), if_neg (by omega)]
  · rw [a2, if_neg z]
theorem op_place {M Ma Mb : sx_M0} {x y c q r1 r2 : Int} (h : rl M) (a1 : r1 = if M 1 1 < 5 ∧ -1000 ≤ x ∧ x ≤ 1000 ∧ -1000 ≤ y ∧ y ≤ 1000 ∧ 0 ≤ c ∧ c ≤ 1000000 ∧ 0 ≤ q ∧ q ≤ 1000 then M 1 1 else -1) (a2 : Ma = if M 1 1 < 5 ∧ -1000 ≤ x ∧ x ≤ 1000 ∧ -1000 ≤ y ∧ y ≤ 1000 ∧ 0 ≤ c ∧ c ≤ 1000000 ∧ 0 ≤ q ∧ q ≤ 1000 then apM (np M) x y c q else M) (b1 : r2 = if Ma 53 1 ≠ 5 ∧ -1000 ≤ x ∧ x ≤ 1000 ∧ -1000 ≤ y ∧ y ≤ 1000 ∧ 0 ≤ c ∧ c ≤ 1000000 ∧ 0 ≤ q ∧ q ≤ 1000 then Ma 53 1 else -1) (b2 : Mb = if Ma 53 1 ≠ 5 ∧ -1000 ≤ x ∧ x ≤ 1000 ∧ -1000 ≤ y ∧ y ≤ 1000 ∧ 0 ≤ c ∧ c ≤ 1000000 ∧ 0 ≤ q ∧ q ≤ 1000 then mpM Ma x y c q else Ma) : r1 = r2 ∧ rl Mb := by
  have hT := h.1.1
  have g0 := hT.1
  have g1 := hT.2.1
  have e53 := mid_place h a2 53 (by decide)
  have hr := h.2.1
  have hU := h.2.2.1
  rw [e53, hr.2.1] at b1 b2
  by_cases z : M 1 1 < 5 ∧ -1000 ≤ x ∧ x ≤ 1000 ∧ -1000 ≤ y ∧ y ≤ 1000 ∧ 0 ≤ c ∧ c ≤ 1000000 ∧ 0 ≤ q ∧ q ≤ 1000
  · have eA : ∀ a, 15 ≤ a → Ma a = M a := mid_place h a2
    rw [if_pos z] at a1 a2
    rw [if_pos (show M 1 1 ≠ 5 ∧ -1000 ≤ x ∧ x ≤ 1000 ∧ -1000 ≤ y ∧ y ≤ 1000 ∧ 0 ≤ c ∧ c ≤ 1000000 ∧ 0 ≤ q ∧ q ≤ 1000 by omega)] at b1 b2
    refine ⟨by omega, ?_⟩
    have vc : ∀ a i, 1 ≤ a → a ≤ 52 → Mb a i = if a = 1 ∧ i = 1 then M 1 1 + 1 else if a = 14 ∧ i = (M 1 1).toNat then q else if a = 13 ∧ i = (M 1 1).toNat then c else if a = 12 ∧ i = (M 1 1).toNat then y else if a = 11 ∧ i = (M 1 1).toNat then x else M a i := fun a i h1 h2 => by
      rw [b2]
      unfold mpM
      rw [sx_up_ne (by omega), sx_up_ne (by omega), sx_up_ne (by omega), sx_up_ne (by omega), sx_up_ne (by omega), sx_up_ne (by omega), a2]
      exact ap_v h1
    have vm : ∀ a i, 53 ≤ a → ¬ (a = 53 ∧ i = 15) → Mb a i = if a = 53 ∧ i = 1 then M 1 1 + 1 else if a = 59 ∧ i = (M 1 1).toNat then q else if a = 58 ∧ i = (M 1 1).toNat then c else if a = 57 ∧ i = (M 1 1).toNat then y else if a = 56 ∧ i = (M 1 1).toNat then x else M a i := fun a i h1 h2 => by
      rw [b2]
      unfold mpM
      rw [e53, hr.2.1]
      show (if a = 53 ∧ i = 15 then 0 else if a = 53 ∧ i = 1 then M 1 1 + 1 else if a = 59 ∧ i = (M 1 1).toNat then q else if a = 58 ∧ i = (M 1 1).toNat then c else if a = 57 ∧ i = (M 1 1).toNat then y else if a = 56 ∧ i = (M 1 1).toNat then x else Ma a i) = _
      rw [if_neg h2, eA a (by omega)]
    have e10 : Mb 1 0 = M 1 0 := by rw [vc 1 0 (by decide) (by decide), if_neg (by omega), if_neg (by omega), if_neg (by omega), if_neg (by omega), if_neg (by omega)]
    have e11 : Mb 1 1 = M 1 1 + 1 := by rw [vc 1 1 (by decide) (by decide), if_pos ⟨rfl, rfl⟩]
    have hTA : tw Ma := by
      rw [a2]
      unfold apM
      rw [show np M 1 1 = M 1 1 from np_c (by decide)]
      exact tw_up (tw_up (tw_up (tw_up (tw_up (tw_fr1 (fun a h1 _ => sx_up_ne (by omega)) hT) (by omega)) (by omega)) (by omega)) (by omega)) (by omega)
    have hTB : tw Mb := tw_fr1 (fun a h1 h2 => by
      rw [b2]
      unfold mpM
      rw [sx_up_ne (by omega), sx_up_ne (by omega), sx_up_ne (by omega), sx_up_ne (by omega), sx_up_ne (by omega), sx_up_ne (by omega)]) hTA
    have m53 : ∀ b, b ≠ 15 → b ≠ 1 → Mb 53 b = M 53 b := fun b h1 h2 => by rw [vm 53 b (by decide) (by omega), if_neg (by omega), if_neg (by omega), if_neg (by omega), if_neg (by omega), if_neg (by omega)]
    have mm : ∀ a, (a = 54 ∨ a = 55 ∨ 60 ≤ a) → Mb a = M a := fun a ha => by
      funext i
      rw [vm a i (by omega) (by omega), if_neg (by omega), if_neg (by omega), if_neg (by omega), if_neg (by omega), if_neg (by omega)]
    have cc : ∀ a, (2 ≤ a ∧ a ≤ 10) ∨ (15 ≤ a ∧ a ≤ 52) → Mb a = M a := fun a h1 => by
      funext i
      rw [vc a i (by omega) (by omega), if_neg (by omega), if_neg (by omega), if_neg (by omega), if_neg (by omega), if_neg (by omega)]
    refine rl_set h hTB ?_ ?_ (fun a h1 h2 => cc a (by omega)) ?_ (mm 63 (by decide)) (mm 64 (by decide)) (m53 12 (by decide) (by decide)) (m53 14 (by decide) (by decide)) ?_ (m53 16 (by decide) (by decide)) (m53 17 (by decide) (by decide)) (by omega)
    · unfold rT
      rw [e10, e11, cc 2 (by decide), cc 3 (by decide), cc 15 (by decide), cc 16 (by decide), mm 54 (by decide), mm 55 (by decide), mm 60 (by decide), mm 61 (by decide), mm 62 (by decide)]
      refine ⟨by rw [m53 0 (by decide) (by decide)]; exact hr.1, by rw [vm 53 1 (by decide) (by omega), if_pos ⟨rfl, rfl⟩], ?_, hr.2.2.2.1, hr.2.2.2.2.1, fun d p hd hp => ?_, fun p hp => ?_⟩
      · rw [m53 11 (by decide) (by decide), vc 1 2 (by decide) (by decide), if_neg (by omega), if_neg (by omega), if_neg (by omega), if_neg (by omega), if_neg (by omega)]
        exact hr.2.2.1
      · rw [cc (4 + 1 + d) (by omega)]
        exact hr.2.2.2.2.2.1 d p hd hp
      · obtain ⟨k1, k2, k3, k4, k5, k6⟩ := hr.2.2.2.2.2.2 p hp
        refine ⟨?_, ?_, ?_, ?_, k5, k6⟩
        · rw [vm 56 p (by decide) (by omega), vc 11 p (by decide) (by decide), k1]
          simp
        · rw [vm 57 p (by decide) (by omega), vc 12 p (by decide) (by decide), k2]
          simp
        · rw [vm 58 p (by decide) (by omega), vc 13 p (by decide) (by decide), k3]
          simp
        · rw [vm 59 p (by decide) (by omega), vc 14 p (by decide) (by decide), k4]
          simp
    · intro d hd hm
      rw [e10] at hm
      rw [mm 55 (by decide), mm 62 (by decide)]
      exact hU d hd hm
    · rw [b2]
      unfold mpM
      rw [sx_up_ne (by decide), sx_up_ne (by decide), sx_up_ne (by decide), sx_up_ne (by decide), sx_up_ne (by decide), sx_up_ne (by decide), a2]
      unfold apM
      rw [sx_up_ne (by decide), sx_up_ne (by decide), sx_up_ne (by decide), sx_up_ne (by decide), sx_up_ne (by decide)]
      exact sx_up_at
    · rw [b2]; exact sx_up_at
  · rw [if_neg z] at a1 a2
    rw [if_neg (show ¬ (M 1 1 ≠ 5 ∧ -1000 ≤ x ∧ x ≤ 1000 ∧ -1000 ≤ y ∧ y ≤ 1000 ∧ 0 ≤ c ∧ c ≤ 1000000 ∧ 0 ≤ q ∧ q ≤ 1000) by omega)] at b1 b2
    subst a2 b2
    exact ⟨by omega, h⟩
