/-! THE RELATION between the class's cells and the reference's, and that each pair of calls keeps it -/
def rU (M : sx_M0) : Prop := ∀ d : Nat, d < 6 → M 1 0 ≤ (d : Int) → M 55 d = 10000 ∧ ∀ p, p < 5 → M 62 (5 * d + p) = -1
def rH (M : sx_M0) : Prop := M 53 12 = M 33 0 ∧ (M 33 0 = 1 → (∀ d, d < 6 → M 34 d = M 63 d) ∧ (∀ d, d < 6 → -1 ≤ M 34 d ∧ M 34 d < M 1 1) ∧ M 53 14 = M 33 1) ∧ (∀ d, d < 6 → -1 ≤ M 63 d ∧ M 63 d ≤ 4)
def rC (M : sx_M0) : Prop := ∃ u : Nat, u < 64 ∧ M 53 16 = (u : Int) ∧ ∀ k, mbS M k = clF u k 6 0 0
def rY (M : sx_M0) : Prop := M 53 17 = M 37 0 ∧ ∀ j : Nat, (j : Int) < M 37 0 → M 64 j = M 38 j
def rl (M : sx_M0) : Prop := ci M ∧ rT M ∧ rU M ∧ rH M ∧ M 53 15 = M 0 5 ∧ rC M ∧ rY M
theorem up_P {P : Int → Prop} {M : sx_M0} {k j c b : Nat} {x : Int} (h : P (M c b)) (hx : c = k → b = j → P x) : P (sx_up M k j x c b) := by
  unfold sx_up
  by_cases e : c = k ∧ b = j
  · rw [if_pos e]; exact hx e.1 e.2
  · rw [if_neg e]; exact h
theorem tw_up {M : sx_M0} {k j : Nat} {x : Int} (hT : tw M) (hk : (k = 3 ∧ 0 ≤ x ∧ x ≤ 10000) ∨ (5 ≤ k ∧ k ≤ 10 ∧ -1 ≤ x ∧ x ≤ 10000) ∨ (k = 15 ∧ 0 ≤ x ∧ x ≤ 3000) ∨ (k = 16 ∧ (x = 0 ∨ x = 1)) ∨ (k = 1 ∧ j = 2 ∧ 0 ≤ x ∧ x ≤ 10000000) ∨ (k = 2 ∧ 0 ≤ x ∧ x ≤ 100) ∨ ((k = 11 ∨ k = 12) ∧ -1000 ≤ x ∧ x ≤ 1000) ∨ (k = 13 ∧ 0 ≤ x ∧ x ≤ 1000000) ∨ (k = 14 ∧ 0 ≤ x ∧ x ≤ 1000) ∨ (k = 1 ∧ j = 0 ∧ 0 ≤ x ∧ x ≤ 6) ∨ (k = 1 ∧ j = 1 ∧ 0 ≤ x ∧ x ≤ 5)) : tw (sx_up M k j x) := by
  obtain ⟨t1, t2, t3, t4, t5, t6, t7, t8, t9, t10, t11, t12⟩ := hT
  exact ⟨up_P (P := fun v => 0 ≤ v ∧ v ≤ 6) t1 (fun _ _ => by omega), up_P (P := fun v => 0 ≤ v ∧ v ≤ 5) t2 (fun _ _ => by omega), up_P (P := fun v => 0 ≤ v ∧ v ≤ 10000000) t3 (fun _ _ => by omega),
    fun d hd => up_P (P := fun v => 0 ≤ v ∧ v ≤ 100) (t4 d hd) (fun _ _ => by omega), fun d hd => up_P (P := fun v => 0 ≤ v ∧ v ≤ 10000) (t5 d hd) (fun _ _ => by omega),
    fun d p hd hp => up_P (P := fun v => -1 ≤ v ∧ v ≤ 10000) (t6 d p hd hp) (fun _ _ => by omega), fun p hp => up_P (P := fun v => -1000 ≤ v ∧ v ≤ 1000) (t7 p hp) (fun _ _ => by omega), fun p hp => up_P (P := fun v => -1000 ≤ v ∧ v ≤ 1000) (t8 p hp) (fun _ _ => by omega), fun p hp => up_P (P := fun v => 0 ≤ v ∧ v ≤ 1000000) (t9 p hp) (fun _ _ => by omega), fun p hp => up_P (P := fun v => 0 ≤ v ∧ v ≤ 1000) (t10 p hp) (fun _ _ => by omega), fun p hp => up_P (P := fun v => 0 ≤ v ∧ v ≤ 3000) (t11 p hp) (fun _ _ => by omega), fun p hp => up_P (P := fun v => v = 0 ∨ v = 1) (t12 p hp) (fun _ _ => by omega)⟩
/-- a call that tells something: the rest stands as it was -/
theorem rl_set {M N : sx_M0} (h : rl M) (hT : tw N) (hr : rT N) (hU : rU N) (f1 : ∀ a, 17 ≤ a → a ≤ 52 → N a = M a) (f0 : N 0 5 = 0) (f63 : N 63 = M 63) (f64 : N 64 = M 64) (f12 : N 53 12 = M 53 12) (f14 : N 53 14 = M 53 14) (f15 : N 53 15 = 0) (f16 : N 53 16 = M 53 16) (f17 : N 53 17 = M 53 17) (hp : M 1 1 ≤ N 1 1) : rl N := by
  obtain ⟨hI, _, _, hH, _, hC, hY⟩ := h
  refine ⟨⟨hT, ?_, ?_, ?_, ?_⟩, hr, hU, ?_, by rw [f15, f0], ?_, ?_⟩
  · have hV := hI.2.1
    unfold sv at hV ⊢
    rw [f1 17 (by decide) (by decide), f1 18 (by decide) (by decide), f1 27 (by decide) (by decide), f1 29 (by decide) (by decide)]
    refine ⟨hV.1, hV.2.1, hV.2.2.1, fun d p hd hp => ?_, hV.2.2.2.2⟩
    rw [f1 (20 + 1 + d) (by omega) (by omega)]
    exact hV.2.2.2.1 d p hd hp
  · have hh := hI.2.2.1
    unfold hv at hh ⊢
    rw [f1 33 (by decide) (by decide), f1 34 (by decide) (by decide), f1 35 (by decide) (by decide), f1 36 (by decide) (by decide), f1 37 (by decide) (by decide), f1 38 (by decide) (by decide), f0]
    exact ⟨hh.1, hh.2.1, hh.2.2.1, hh.2.2.2.1, hh.2.2.2.2.1, hh.2.2.2.2.2.1, hh.2.2.2.2.2.2.1, Or.inl rfl⟩
  · rw [f1 17 (by decide) (by decide)]; exact hI.2.2.2.1
  · rw [f1 19 (by decide) (by decide)]; exact hI.2.2.2.2
  · unfold rH at hH ⊢
    rw [f12, f14, f63, f1 33 (by decide) (by decide), f1 34 (by decide) (by decide)]
    exact ⟨hH.1, fun y => ⟨(hH.2.1 y).1, fun d hd => ⟨((hH.2.1 y).2.1 d hd).1, by have := ((hH.2.1 y).2.1 d hd).2; omega⟩, (hH.2.1 y).2.2⟩, hH.2.2⟩
  · obtain ⟨u, u1, u2, u3⟩ := hC
    refine ⟨u, u1, by rw [f16]; exact u2, fun k => ?_⟩
    unfold mbS
    rw [f1 35 (by decide) (by decide), f1 36 (by decide) (by decide)]
    exact u3 k
  · unfold rY at hY ⊢
    rw [f17, f64, f1 37 (by decide) (by decide), f1 38 (by decide) (by decide)]
    exact hY
/-- one cell told on each side -/
abbrev s2 (M : sx_M0) (k1 j1 k2 j2 : Nat) (x y : Int) : sx_M0 := sx_up (sx_up (sx_up (sx_up M k1 j1 x) 0 5 0) k2 j2 y) 53 15 0
theorem s2_c {M : sx_M0} {k1 j1 k2 j2 c i : Nat} {x y : Int} (hk2 : 53 ≤ k2) (hc : 1 ≤ c ∧ c ≤ 52) : s2 M k1 j1 k2 j2 x y c i = if c = k1 ∧ i = j1 then x else M c i := by
  show (if c = 53 ∧ i = 15 then 0 else if c = k2 ∧ i = j2 then y else if c = 0 ∧ i = 5 then 0 else if c = k1 ∧ i = j1 then x else M c i) = _
  rw [if_neg (by omega), if_neg (by omega), if_neg (by omega)]
theorem s2_m {M : sx_M0} {k1 j1 k2 j2 c i : Nat} {x y : Int} (hk1 : k1 ≤ 52) (hc : 53 ≤ c) (h15 : ¬ (c = 53 ∧ i = 15)) : s2 M k1 j1 k2 j2 x y c i = if c = k2 ∧ i = j2 then y else M c i := by
  show (if c = 53 ∧ i = 15 then 0 else if c = k2 ∧ i = j2 then y else if c = 0 ∧ i = 5 then 0 else if c = k1 ∧ i = j1 then x else M c i) = _
  rw [if_neg h15]
  by_cases e : c = k2 ∧ i = j2
  · rw [if_pos e, if_pos e]
  · rw [if_neg e, if_neg e, if_neg (by omega), if_neg (by omega)]
theorem s2_l {M : sx_M0} {k1 j1 k2 j2 c1 i1 c2 i2 : Nat} {x : Int} (h : M c2 i2 = M c1 i1) (hk1 : k1 ≤ 52) (hk2 : 53 ≤ k2) (h1 : 1 ≤ c1 ∧ c1 ≤ 52) (h2 : 53 ≤ c2) (h15 : ¬ (c2 = 53 ∧ i2 = 15)) (hi : (c1 = k1 ∧ i1 = j1) ↔ (c2 = k2 ∧ i2 = j2)) : s2 M k1 j1 k2 j2 x x c2 i2 = s2 M k1 j1 k2 j2 x x c1 i1 := by
  rw [s2_c hk2 h1, s2_m hk1 h2 h15]
  by_cases e : c1 = k1 ∧ i1 = j1
  · rw [if_pos e, if_pos (hi.mp e)]
  · rw [if_neg e, if_neg (fun z => e (hi.mpr z)), h]
theorem rl_s2 {M : sx_M0} {k1 j1 k2 j2 : Nat} {x : Int} (h : rl M) (hT : tw (sx_up M k1 j1 x)) (hk1 : 1 ≤ k1 ∧ k1 ≤ 16) (hk2 : 53 ≤ k2 ∧ k2 ≤ 62) (hx1 : k1 = 1 → j1 = 2) (hx2 : k2 = 53 → j2 = 11)
    (hi : ∀ c1 i1 c2 i2, ((c1 = 1 ∧ c2 = 53 ∧ ((i1 = 0 ∧ i2 = 0) ∨ (i1 = 1 ∧ i2 = 1) ∨ (i1 = 2 ∧ i2 = 11))) ∨ (i1 = i2 ∧ i1 < 6 ∧ ((c1 = 2 ∧ c2 = 54) ∨ (c1 = 3 ∧ c2 = 55))) ∨ (i1 = i2 ∧ i1 < 5 ∧ ((c1 = 11 ∧ c2 = 56) ∨ (c1 = 12 ∧ c2 = 57) ∨ (c1 = 13 ∧ c2 = 58) ∨ (c1 = 14 ∧ c2 = 59) ∨ (c1 = 15 ∧ c2 = 60) ∨ (c1 = 16 ∧ c2 = 61)))) → ((c1 = k1 ∧ i1 = j1) ↔ (c2 = k2 ∧ i2 = j2)))
    (hw : ∀ d p, d < 6 → p < 5 → ((4 + 1 + d = k1 ∧ p = j1) ↔ (62 = k2 ∧ 5 * d + p = j2))) (hu : ∀ d : Nat, d < 6 → M 1 0 ≤ (d : Int) → ¬ (55 = k2 ∧ d = j2) ∧ ∀ p, p < 5 → ¬ (62 = k2 ∧ 5 * d + p = j2)) : rl (s2 M k1 j1 k2 j2 x x) := by
  have h0 : rl M := h
  obtain ⟨hI, hr, hU, _⟩ := h
  have g0 := hI.1.1
  have e10 : s2 M k1 j1 k2 j2 x x 1 0 = M 1 0 := by rw [s2_c hk2.1 (by omega), if_neg (by omega)]
  have e11 : s2 M k1 j1 k2 j2 x x 1 1 = M 1 1 := by rw [s2_c hk2.1 (by omega), if_neg (by omega)]
  have m53 : ∀ b, b ≠ 15 → b ≠ 11 → s2 M k1 j1 k2 j2 x x 53 b = M 53 b := fun b h1 h2 => by rw [s2_m (by omega) (by omega) (by omega), if_neg (by omega)]
  have hTN : tw (s2 M k1 j1 k2 j2 x x) := by
    refine tw_fr1 (M := sx_up M k1 j1 x) (fun a h1 h2 => ?_) hT
    funext b
    rw [s2_c hk2.1 (by omega)]
    rfl
  refine rl_set h0 hTN ?_ ?_ (fun a h1 h2 => ?_) ?_ ?_ ?_ (m53 12 (by decide) (by decide)) (m53 14 (by decide) (by decide)) sx_up_at (m53 16 (by decide) (by decide)) (m53 17 (by decide) (by decide)) (by omega)
  · unfold rT
    rw [e10]
    refine ⟨by rw [m53 0 (by decide) (by decide)]; exact hr.1, s2_l hr.2.1 (by omega) (by omega) (by omega) (by omega) (by omega) (hi 1 1 53 1 (by omega)), s2_l hr.2.2.1 (by omega) (by omega) (by omega) (by omega) (by omega) (hi 1 2 53 11 (by omega)), fun d hd => s2_l (hr.2.2.2.1 d hd) (by omega) (by omega) (by omega) (by omega) (by omega) (hi 2 d 54 d (by omega)), fun d hd => s2_l (hr.2.2.2.2.1 d hd) (by omega) (by omega) (by omega) (by omega) (by omega) (hi 3 d 55 d (by omega)), fun d p hd hp => s2_l (hr.2.2.2.2.2.1 d p hd hp) (by omega) (by omega) (by omega) (by omega) (by omega) (hw d p (by omega) hp), fun p hp => ?_⟩
    obtain ⟨a1, a2, a3, a4, a5, a6⟩ := hr.2.2.2.2.2.2 p hp
    exact ⟨s2_l a1 (by omega) (by omega) (by omega) (by omega) (by omega) (hi 11 p 56 p (by omega)), s2_l a2 (by omega) (by omega) (by omega) (by omega) (by omega) (hi 12 p 57 p (by omega)), s2_l a3 (by omega) (by omega) (by omega) (by omega) (by omega) (hi 13 p 58 p (by omega)), s2_l a4 (by omega) (by omega) (by omega) (by omega) (by omega) (hi 14 p 59 p (by omega)), s2_l a5 (by omega) (by omega) (by omega) (by omega) (by omega) (hi 15 p 60 p (by omega)), s2_l a6 (by omega) (by omega) (by omega) (by omega) (by omega) (hi 16 p 61 p (by omega))⟩
  · intro d hd hm
    rw [e10] at hm
    obtain ⟨u1, u2⟩ := hU d hd hm
    obtain ⟨v1, v2⟩ := hu d hd hm
    refine ⟨by rw [s2_m (by omega) (by omega) (by omega), if_neg v1]; exact u1, fun p hp => ?_⟩
    rw [s2_m (by omega) (by omega) (by omega), if_neg (v2 p hp)]
    exact u2 p hp
  · funext b
    rw [s2_c hk2.1 (by omega), if_neg (by omega)]
  · show (if (0 : Nat) = 53 ∧ (5 : Nat) = 15 then (0 : Int) else if 0 = k2 ∧ 5 = j2 then x else if (0 : Nat) = 0 ∧ (5 : Nat) = 5 then 0 else _) = 0
    rw [if_neg (by omega), if_neg (by omega), if_pos ⟨rfl, rfl⟩]
  · funext b
    rw [s2_m (by omega) (by omega) (by omega), if_neg (by omega)]
  · funext b
    rw [s2_m (by omega) (by omega) (by omega), if_neg (by omega)]
