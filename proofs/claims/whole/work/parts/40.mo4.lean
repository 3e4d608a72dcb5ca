def lxs : Nat → Nat → (Nat → Int) → (Nat → Int) → Prop
  | 0, _, _, _ => False
  | n + 1, k, g, h => g k < h k ∨ (g k = h k ∧ lxs n (k + 1) g h)
/-- t' is the trial behind t; the one raised is d -/
def nxP (D : Nat) (P : Int) (t t' : Nat → Int) (d : Nat) : Prop := d < D ∧ 0 ≤ t d ∧ t d + 1 < P ∧ t' d = t d + 1 ∧ (∀ e, e < d → t' e = t e) ∧ (∀ e, d < e → e < D → (0 ≤ t e → t e + 1 = P ∧ t' e = 0) ∧ (t e < 0 → t' e = t e)) ∧ (∀ e, D ≤ e → t' e = t e)
/-- g is shaped as t is -/
def shT (D : Nat) (P : Int) (t g : Nat → Int) : Prop := ∀ e, e < D → (0 ≤ t e → 0 ≤ g e ∧ g e < P) ∧ (t e < 0 → g e = t e)
theorem nx_suf {D : Nat} {P : Int} {t t' g : Nat → Int} {d : Nat} (h : nxP D P t t' d) (hg : shT D P t g) : ∀ n k, k + n = D → d < k → lx n k g t ∧ ¬ lxs n k g t'
  | 0, _, _, _ => ⟨trivial, fun z => z⟩
  | n + 1, k, h1, h2 => by
    have ih := nx_suf h hg n (k + 1) (by omega) (by omega)
    have q := hg k (by omega)
    have q2 := h.2.2.2.2.2.1 k h2 (by omega)
    rcases Int.lt_or_le (t k) 0 with y | y
    · have z := q.2 y
      have z2 := q2.2 y
      refine ⟨Or.inr ⟨z, ih.1⟩, fun w => ?_⟩
      rcases w with w | ⟨_, w⟩
      · omega
      · exact ih.2 w
    · have z := q.1 y
      have z2 := q2.1 y
      refine ⟨?_, fun w => ?_⟩
      · by_cases e : g k < t k
        · exact Or.inl e
        · exact Or.inr ⟨by omega, ih.1⟩
      · rcases w with w | ⟨_, w⟩
        · omega
        · exact ih.2 w
theorem nx_lex {D : Nat} {P : Int} {t t' g : Nat → Int} {d : Nat} (h : nxP D P t t' d) (hg : shT D P t g) : ∀ n k, k + n = D → k ≤ d → (lxs n k g t' ↔ lx n k g t)
  | 0, k, h1, h2 => by have := h.1; omega
  | n + 1, k, h1, h2 => by
    by_cases e : k = d
    · subst e
      have s := nx_suf h hg n (k + 1) (by omega) (by omega)
      have q := h.2.2.2.1
      constructor
      · rintro (w | ⟨_, w⟩)
        · by_cases e : g k < t k
          · exact Or.inl e
          · exact Or.inr ⟨by omega, s.1⟩
        · exact absurd w s.2
      · rintro (w | ⟨w, _⟩)
        · exact Or.inl (by omega)
        · exact Or.inl (by omega)
    · have ih := nx_lex h hg n (k + 1) (by omega) (by omega)
      have q := h.2.2.2.2.1 k (by omega)
      constructor
      · rintro (w | ⟨w, w2⟩)
        · exact Or.inl (by omega)
        · exact Or.inr ⟨by omega, ih.mp w2⟩
      · rintro (w | ⟨w, w2⟩)
        · exact Or.inl (by omega)
        · exact Or.inr ⟨by omega, ih.mpr w2⟩
theorem lx_max {D : Nat} {P : Int} {t g : Nat → Int} (hm : ∀ e, e < D → 0 ≤ t e → t e + 1 = P) (hg : shT D P t g) : ∀ n k, k + n = D → lx n k g t
  | 0, _, _ => trivial
  | n + 1, k, h1 => by
    have ih := lx_max hm hg n (k + 1) (by omega)
    have q := hg k (by omega)
    rcases Int.lt_or_le (t k) 0 with y | y
    · exact Or.inr ⟨q.2 y, ih⟩
    · have z := q.1 y
      have z2 := hm k (by omega) y
      by_cases e : g k < t k
      · exact Or.inl e
      · exact Or.inr ⟨by omega, ih⟩
theorem lxs_min {D : Nat} {P : Int} {t g : Nat → Int} (hm : ∀ e, e < D → t e ≤ 0) (hg : shT D P t g) : ∀ n k, k + n = D → ¬ lxs n k g t
  | 0, _, _ => fun z => z
  | n + 1, k, h1 => fun w => by
    have ih := lxs_min hm hg n (k + 1) (by omega)
    have q := hg k (by omega)
    have q2 := hm k (by omega)
    rcases w with w | ⟨_, w⟩
    · rcases Int.lt_or_le (t k) 0 with y | y
      · have := q.2 y; omega
      · have := q.1 y; omega
    · exact ih w
theorem lx_eq : ∀ {n k : Nat} {g h : Nat → Int}, lx n k g h → ¬ lxs n k g h → ∀ e, k ≤ e → e < k + n → g e = h e
  | 0, k, g, h, _, _, e, h1, h2 => by omega
  | n + 1, k, g, h, h3, h4, e, h1, h2 => by
    rcases h3 with y | ⟨y, y2⟩
    · exact absurd (Or.inl y) h4
    · by_cases z : e = k
      · rw [z]; exact y
      · exact lx_eq y2 (fun w => h4 (Or.inr ⟨y, w⟩)) e (by omega) (by omega)
theorem lx_lt {n k : Nat} {g h : Nat → Int} : ∀ {n k : Nat}, lxs n k g h → lx n k g h
  | 0, _, z => absurd z (fun w => w)
  | n + 1, k, z => by
    rcases z with y | ⟨y, y2⟩
    · exact Or.inl y
    · exact Or.inr ⟨y, lx_lt (n := n) (k := k + 1) y2⟩
theorem lxs_lx {g h i : Nat → Int} : ∀ {n k : Nat}, lxs n k g h → lx n k h i → lxs n k g i
  | 0, _, z, _ => absurd z (fun w => w)
  | n + 1, k, z, w => by
    rcases z with y | ⟨y, y2⟩
    · rcases w with w | ⟨w, w2⟩
      · exact Or.inl (by omega)
      · exact Or.inl (by omega)
    · rcases w with w | ⟨w, w2⟩
      · exact Or.inl (by omega)
      · exact Or.inr ⟨by omega, lxs_lx y2 w2⟩
def nuF (t : Nat → Int) : Nat → Nat → Nat
  | 0, _ => 0
  | n + 1, k => (t k + 1).toNat * 6 ^ n + nuF t n (k + 1)
theorem nu_lt {t : Nat → Int} : ∀ (n k : Nat), (∀ e, k ≤ e → e < k + n → t e ≤ 4) → nuF t n k < 6 ^ n
  | 0, _, _ => by show 0 < 1; decide
  | n + 1, k, h => by
    have ih := nu_lt n (k + 1) (fun e h1 h2 => h e (by omega) (by omega))
    have q := h k (Nat.le_refl k) (by omega)
    show (t k + 1).toNat * 6 ^ n + nuF t n (k + 1) < 6 ^ (n + 1)
    rw [Nat.pow_succ]
    have : (t k + 1).toNat * 6 ^ n ≤ 5 * 6 ^ n := Nat.mul_le_mul_right _ (by omega)
    omega
theorem nu_mono {g h : Nat → Int} : ∀ (n k : Nat), (∀ e, k ≤ e → e < k + n → -1 ≤ g e ∧ g e ≤ 4) → lxs n k g h → nuF g n k < nuF h n k
  | 0, _, _, z => absurd z (fun w => w)
  | n + 1, k, hb, z => by
    have q := nu_lt (t := g) n (k + 1) (fun e h1 h2 => (hb e (by omega) (by omega)).2)
    have qk := hb k (Nat.le_refl k) (by omega)
    show (g k + 1).toNat * 6 ^ n + nuF g n (k + 1) < (h k + 1).toNat * 6 ^ n + nuF h n (k + 1)
    rcases z with y | ⟨y, y2⟩
    · have e : (g k + 1).toNat + 1 ≤ (h k + 1).toNat := by omega
      have : ((g k + 1).toNat + 1) * 6 ^ n ≤ (h k + 1).toNat * 6 ^ n := Nat.mul_le_mul_right _ e
      rw [Nat.add_mul] at this
      omega
    · have ih := nu_mono n (k + 1) (fun e h1 h2 => hb e (by omega) (by omega)) y2
      rw [y]
      omega
theorem pw6 : ∀ n, n ≤ 6 → 6 ^ n ≤ 46656 := by decide
def nxI (M0 M : sx_M0) (e : Nat) : Prop := (∀ a, a ≠ 65 → M a = M0 a) ∧ (∀ j, j < e → M 65 j = M0 65 j) ∧ (∀ j, e ≤ j → j < (M0 1 0).toNat → (0 ≤ M0 65 j → M0 65 j + 1 = M0 1 1 ∧ M 65 j = 0) ∧ (M0 65 j < 0 → M 65 j = M0 65 j)) ∧ (∀ j, (M0 1 0).toNat ≤ j → M 65 j = M0 65 j)
theorem nx_0 {M0 M : sx_M0} {m : Nat} (h : nxI M0 M (m + 1)) (hm : M0 65 m < 0) : nxI M0 M m := by
  refine ⟨h.1, fun j hj => h.2.1 j (by omega), fun j h1 h2 => ?_, h.2.2.2⟩
  by_cases e : j = m
  · rw [e]; exact ⟨fun y => by omega, fun _ => h.2.1 m (by omega)⟩
  · exact h.2.2.1 j (by omega) h2
theorem nx_1 {M0 M : sx_M0} {m : Nat} (h : nxI M0 M (m + 1)) (hD : m < (M0 1 0).toNat) (hm : 0 ≤ M0 65 m) (hm2 : M0 65 m + 1 = M0 1 1) : nxI M0 (sx_up M 65 m 0) m := by
  refine ⟨fun a ha => by rw [sx_up_ne ha]; exact h.1 a ha, fun j hj => by rw [sx_up_slot (by omega)]; exact h.2.1 j (by omega), fun j h1 h2 => ?_, fun j hj => by rw [sx_up_slot (by omega)]; exact h.2.2.2 j hj⟩
  by_cases e : j = m
  · rw [e, sx_up_at]; exact ⟨fun y => ⟨hm2, rfl⟩, fun y => by omega⟩
  · rw [sx_up_slot e]; exact h.2.2.1 j (by omega) h2
theorem nx_2 {M0 M : sx_M0} {m : Nat} (h : nxI M0 M (m + 1)) (hD : m < (M0 1 0).toNat) (hm : 0 ≤ M0 65 m) (hm2 : M0 65 m + 1 < M0 1 1) : nxP (M0 1 0).toNat (M0 1 1) (M0 65) (sx_up M 65 m (M0 65 m + 1) 65) m := by
  refine ⟨hD, hm, hm2, sx_up_at, fun e he => by rw [sx_up_slot (by omega)]; exact h.2.1 e (by omega), fun e h1 h2 => ?_, fun e he => by rw [sx_up_slot (by omega)]; exact h.2.2.2 e he⟩
  rw [sx_up_slot (by omega)]; exact h.2.2.1 e (by omega) h2
set_option maxRecDepth 100000 in
set_option maxHeartbeats 4000000 in
theorem lp_Mo_next (M0 : sx_M0) (hT : tw M0) (hr : rT M0) (hg : ∀ d, d < (M0 1 0).toNat → -1 ≤ M0 65 d ∧ M0 65 d < M0 1 1) {E : sx_E} (C : sx_C SC g_tbl "SiteChoiceModel" c_Mo_next E) (Rr : sx_Ret SC (some .boolean) (rmk 0 0) (fun r G' M' => G' = GL ∧ (∀ a, a ≠ 65 → M' a = M0 a) ∧ ((r = some (sx_I 1) ∧ ∃ d, nxP (M0 1 0).toNat (M0 1 1) (M0 65) (M' 65) d) ∨ (r = some (sx_I 0) ∧ ∀ e, e < (M0 1 0).toNat → 0 ≤ M0 65 e → M0 65 e + 1 = M0 1 1))) E) (hnL : sx_nL E = 2) : ∀ (e : Nat), e ≤ (M0 1 0).toNat → ∀ (M : sx_M0), nxI M0 M e → sx_X SC E (0, 0) GL M 7 [(1, sx_I (((e : Nat) : Int) - 1)), (0, sx_A (53))] [] := by
  have g0 := hT.1
  have g1 := hT.2.1
  intro e
  induction e with
  | zero =>
    intro _ M h
    refine sx_iload_n C 0 d_Mo_next_7 rfl rfl ?_
    refine sx_if_lt C 60 ⟨by omega, by omega⟩ d_Mo_next_8 (by decide) (fun c8 => ?_) (fun c8 => ?_)
    · refine sx_iconst C d_Mo_next_60 ?_
      refine sx_zreturn C Rr (by omega) rfl d_Mo_next_61 ?_
      exact ⟨rfl, h.1, Or.inr ⟨rfl, fun e he h0 => ((h.2.2.1 e (Nat.zero_le e) he).1 h0).1⟩⟩
    · exfalso; omega
  | succ m ih =>
    intro hm M h
    rw [show ((m + 1 : Nat) : Int) - 1 = ((m : Nat) : Int) by omega]
    refine sx_iload_n C 0 d_Mo_next_7 rfl rfl ?_
    refine sx_if_lt C 60 ⟨by omega, by omega⟩ d_Mo_next_8 (by decide) (fun c8 => ?_) (fun c8 => ?_)
    · exfalso; omega
    · have q1 := hg m (by omega)
      have q2 : M 65 m = M0 65 m := h.2.1 m (by omega)
      have e53 : M 53 = M0 53 := h.1 53 (by decide)
      refine sx_aload_n C 1 d_Mo_next_11 rfl rfl ?_
      refine sx_getr C f_Mo_51 65 (by decide) rfl rfl d_Mo_next_12 ?_
      refine sx_iload_n C 0 d_Mo_next_15 rfl rfl ?_
      refine sx_iaload C m (by decide) rfl rfl rfl (by omega) (by decide) d_Mo_next_16 ?_
      rw [q2]
      refine sx_if_lt C 54 ⟨by omega, by omega⟩ d_Mo_next_17 (by decide) (fun c17 => ?_) (fun c17 => ?_)
      · refine sx_iinc (lv' := [(1, sx_I (((m : Nat) : Int) + (-1))), (0, sx_A (53))]) C 0 d_Mo_next_54 rfl (by rw [hnL]; decide) rfl ?_
        refine sx_goto C 7 d_Mo_next_57 (by decide) ?_
        rw [show ((m : Nat) : Int) + (-1) = ((m : Nat) : Int) - 1 by omega]
        refine sx_sub [0, 1] rfl ?_
        exact ih (by omega) M (nx_0 h (by omega))
      · refine sx_aload_n C 1 d_Mo_next_20 rfl rfl ?_
        refine sx_getr C f_Mo_51 65 (by decide) rfl rfl d_Mo_next_21 ?_
        refine sx_iload_n C 0 d_Mo_next_24 rfl rfl ?_
        refine sx_iaload C m (by decide) rfl rfl rfl (by omega) (by decide) d_Mo_next_25 ?_
        rw [q2]
        refine sx_aload_n C 1 d_Mo_next_26 rfl rfl ?_
        refine sx_geti C f_Mo_77 (by decide) rfl d_Mo_next_27 ?_
        rw [show M 53 1 = M0 1 1 from by rw [e53]; exact hr.2.1]
        refine sx_iconst C d_Mo_next_30 ?_
        refine sx_isub C d_Mo_next_31 ?_
        refine sx_icmp_ge C 47 ⟨by omega, by omega⟩ ⟨by omega, by omega⟩ d_Mo_next_32 (by decide) (fun c32 => ?_) (fun c32 => ?_)
        · refine sx_aload_n C 1 d_Mo_next_47 rfl rfl ?_
          refine sx_getr C f_Mo_51 65 (by decide) rfl rfl d_Mo_next_48 ?_
          refine sx_iload_n C 0 d_Mo_next_51 rfl rfl ?_
          refine sx_iconst C d_Mo_next_52 ?_
          refine sx_iastore C m (by decide) rfl rfl rfl (by omega) (by decide) d_Mo_next_53 ?_
          refine sx_iinc (lv' := [(1, sx_I (((m : Nat) : Int) + (-1))), (0, sx_A (53))]) C 0 d_Mo_next_54 rfl (by rw [hnL]; decide) rfl ?_
          refine sx_goto C 7 d_Mo_next_57 (by decide) ?_
          rw [show ((m : Nat) : Int) + (-1) = ((m : Nat) : Int) - 1 by omega]
          refine sx_sub [0, 1] rfl ?_
          exact ih (by omega) _ (nx_1 h (by omega) (by omega) (by omega))
        · refine sx_aload_n C 1 d_Mo_next_35 rfl rfl ?_
          refine sx_getr C f_Mo_51 65 (by decide) rfl rfl d_Mo_next_36 ?_
          refine sx_iload_n C 0 d_Mo_next_39 rfl rfl ?_
          refine sx_dup2_11 C d_Mo_next_40 rfl rfl ?_
          refine sx_iaload C m (by decide) rfl rfl rfl (by omega) (by decide) d_Mo_next_41 ?_
          rw [q2]
          refine sx_iconst C d_Mo_next_42 ?_
          refine sx_iadd C d_Mo_next_43 ?_
          refine sx_iastore C m (by decide) rfl rfl rfl (by omega) (by decide) d_Mo_next_44 ?_
          refine sx_iconst C d_Mo_next_45 ?_
          refine sx_zreturn C Rr (by omega) rfl d_Mo_next_46 ?_
          exact ⟨rfl, fun a ha => by rw [sx_up_ne ha]; exact h.1 a ha, Or.inl ⟨rfl, m, nx_2 h (by omega) (by omega) (by omega)⟩⟩
set_option maxRecDepth 100000 in
set_option maxHeartbeats 4000000 in
theorem ct_Mo_next (l : Launch) (D : va_G) (tc : Nat → ClassId) (M : sx_M0) (hT : tw M) (hr : rT M) (hg : ∀ d, d < (M 1 0).toNat → -1 ≤ M 65 d ∧ M 65 d < M 1 1) : sx_Met SC l D tc y_Mo_next w_Mo_next (rmk 0 0) [sx_A (53)] GL M (fun r G' M' => G' = GL ∧ (∀ a, a ≠ 65 → M' a = M a) ∧ ((r = some (sx_I 1) ∧ ∃ d, nxP (M 1 0).toNat (M 1 1) (M 65) (M' 65) d) ∨ (r = some (sx_I 0) ∧ ∀ e, e < (M 1 0).toNat → 0 ≤ M 65 e → M 65 e + 1 = M 1 1))) := by
  refine sx_enter (by decide) rfl (Nat.le_of_ble_eq_true rfl) (Ts := g_tbl) (fun _ h => List.mem_cons_of_mem _ h) (fun E C Rr hnm hnL => ?_)
  have g0 := hT.1
  refine sx_aload_n C 0 d_Mo_next_0 rfl rfl ?_
  refine sx_geti C f_Mo_73 (by decide) rfl d_Mo_next_1 ?_
  rw [show M 53 0 = (((M 1 0).toNat : Nat) : Int) from by rw [hr.1]; omega]
  refine sx_iconst C d_Mo_next_4 ?_
  refine sx_isub C d_Mo_next_5 ?_
  refine sx_istore_n (lv' := [(1, sx_I ((((M 1 0).toNat : Nat) : Int) - 1)), (0, sx_A (53))]) C d_Mo_next_6 rfl (by rw [hnL]; decide) rfl ?_
  refine sx_sub [0, 1] rfl ?_
  exact lp_Mo_next M hT hr hg C Rr hnL _ (Nat.le_refl _) M ⟨fun _ _ => rfl, fun _ _ => rfl, fun j h1 h2 => by omega, fun _ _ => rfl⟩
