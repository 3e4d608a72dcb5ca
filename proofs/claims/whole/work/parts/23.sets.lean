/-- no one of the first n places of s is too near to place p -/
def nbS (M : sx_M0) (s p : Nat) : Nat → Prop
  | 0 => True
  | q + 1 => nbS M s p q ∧ ¬ (s.testBit q = true ∧ nrS M q p)
/-- the cost of a place, if place f (-1: none) costs nothing -/
def coS (M : sx_M0) (f : Int) (p : Nat) : Int := if (p : Int) = f then 0 else M 13 p
def csS (M : sx_M0) (f : Int) (s : Nat) : Nat → Int
  | 0 => 0
  | p + 1 => csS M f s p + (if s.testBit p = true then coS M f p else 0)
/-- may the set of the first n places of s be open? -/
def moS (M : sx_M0) (f : Int) (s : Nat) : Nat → Prop
  | 0 => True
  | p + 1 => moS M f s p ∧ (s.testBit p = true → M 16 p = 0 ∧ csS M f s (p + 1) ≤ M 1 2 ∧ nbS M s p p)
noncomputable def b01 (p : Prop) : Int := @ite Int p (Classical.propDecidable p) 1 0
theorem b01_t {p : Prop} (h : p) : b01 p = 1 := by
  unfold b01
  rw [if_pos h]
theorem b01_f {p : Prop} (h : ¬ p) : b01 p = 0 := by
  unfold b01
  rw [if_neg h]
theorem b01_or (p : Prop) : b01 p = 0 ∨ b01 p = 1 := by
  by_cases h : p
  · exact Or.inr (b01_t h)
  · exact Or.inl (b01_f h)
theorem b01_1 {p : Prop} : b01 p = 1 ↔ p := by
  constructor
  · intro h
    by_cases q : p
    · exact q
    · rw [b01_f q] at h
      cases h
  · exact b01_t
theorem b01_c {p q : Prop} (h : p ↔ q) : b01 p = b01 q := by rw [propext h]
theorem nb_at {M : sx_M0} {s p : Nat} : ∀ {n q : Nat}, q < n → nbS M s p n → ¬ (s.testBit q = true ∧ nrS M q p)
  | 0, _, h, _ => by omega
  | n + 1, q, h, hn => by
    by_cases e : q = n
    · subst e
      exact hn.2
    · exact nb_at (by omega) hn.1
set_option maxRecDepth 100000 in
set_option maxHeartbeats 4000000 in
theorem lp_Se_isAnyTooNear  (M : sx_M0) (hT : tw M) (s p : Nat) (hs : s < 32) (hp : p < 5) {E : sx_E} (C : sx_C SC g_tbl "SiteChoice$Search" c_Se_isAnyTooNear E) (Rr : sx_Ret SC (some .boolean) (rmk 2 80) (fun r G' M' => G' = GL ∧ M' = M ∧ bz (¬ nbS M s p p) r) E) (hnL : sx_nL E = 4) : ∀ (nF : Nat) (q : Nat), p - q < nF → nbS M s p q → q ≤ p → sx_X SC E (0, 0) GL M 2 [(3, sx_I (((q : Nat) : Int))), (0, sx_A (1)), (1, sx_I (((s : Nat) : Int))), (2, sx_I (((p : Nat) : Int)))] [] := by
  intro nF
  induction nF with
  | zero => intro q h; omega
  | succ nF ih =>
    intro q hn h1 h2
    refine sx_iload_n C 0 d_Se_isAnyTooNear_2 rfl rfl ?_
    refine sx_iload_n C 3 d_Se_isAnyTooNear_3 rfl rfl ?_
    refine sx_icmp_ge C 33 ⟨by omega, by omega⟩ ⟨by omega, by omega⟩ d_Se_isAnyTooNear_4 (by decide) (fun c4 => ?_) (fun c4 => ?_)
    · refine sx_iconst C d_Se_isAnyTooNear_33 ?_
      refine sx_zreturn C Rr (by omega) rfl d_Se_isAnyTooNear_34 ?_
      exact ⟨rfl, rfl, 0, rfl, Or.inr ⟨rfl, fun z => z (by rw [show p = q by omega] at h1 ⊢; exact h1)⟩⟩
    · refine sx_iload_n C 2 d_Se_isAnyTooNear_7 rfl rfl ?_
      refine sx_iload_n C 0 d_Se_isAnyTooNear_8 rfl rfl ?_
      refine sx_ishr C d_Se_isAnyTooNear_9 ?_
      refine sx_iconst C d_Se_isAnyTooNear_10 ?_
      refine sx_iand C d_Se_isAnyTooNear_11 ?_
      have hv := bit_n s hs q (by omega)
      generalize (sx_and (sx_shr ((s : Nat) : Int) ((q : Nat) : Int)) 1) = v at hv ⊢
      refine sx_iconst C d_Se_isAnyTooNear_12 ?_
      refine sx_icmp_ne C 27 ⟨by omega, by omega⟩ ⟨by omega, by omega⟩ d_Se_isAnyTooNear_13 (by decide) (fun c13 => ?_) (fun c13 => ?_)
      · refine sx_iinc (lv' := [(3, sx_I (((q + 1 : Nat) : Int))), (0, sx_A (1)), (1, sx_I (((s : Nat) : Int))), (2, sx_I (((p : Nat) : Int)))]) C 0 d_Se_isAnyTooNear_27 rfl (by rw [hnL]; decide) rfl ?_
        refine sx_goto C 2 d_Se_isAnyTooNear_30 (by decide) ?_
        refine sx_sub [0, 1, 2, 3] rfl ?_
        exact ih (q + 1) (by omega) ⟨h1, by rintro ⟨z1, z2⟩; first | (rcases hv with ⟨y1, y2⟩ | ⟨y1, y2⟩; omega; rw [y2] at z1; cases z1) | (rcases hb19 with ⟨y1, y2⟩ | ⟨y1, y2⟩; omega; exact y2 z2)⟩ (by omega)
      · refine sx_aload_n C 1 d_Se_isAnyTooNear_16 rfl rfl ?_
        refine sx_iload_n C 0 d_Se_isAnyTooNear_17 rfl rfl ?_
        refine sx_iload_n C 3 d_Se_isAnyTooNear_18 rfl rfl ?_
        refine sx_callV (n := 71) (As := [sx_I (((q : Nat) : Int)), sx_I (((p : Nat) : Int))]) (st := []) C (ct_To_isTooNear _ _ _ M hT q p (by omega) (by omega)) rfl (by decide) rfl (cv_Se_103 E C _ (by rw [Rr.2.2]; decide)) (Nat.le_of_ble_eq_true rfl) d_Se_isAnyTooNear_19 (by rw [Rr.2.2]; decide) (by decide) rfl rfl rfl (fun r19 G19 M19 hpo _ => ?_)
        obtain ⟨e1, e2, b19, rfl, hb19⟩ := hpo
        rw [e1, e2]
        show sx_X SC E (0, 0) GL M 22 [(3, sx_I (((q : Nat) : Int))), (0, sx_A (1)), (1, sx_I (((s : Nat) : Int))), (2, sx_I (((p : Nat) : Int)))] [sx_I (b19)]
        refine sx_if_eq C 27 ⟨by omega, by omega⟩ d_Se_isAnyTooNear_22 (by decide) (fun c22 => ?_) (fun c22 => ?_)
        · refine sx_iinc (lv' := [(3, sx_I (((q + 1 : Nat) : Int))), (0, sx_A (1)), (1, sx_I (((s : Nat) : Int))), (2, sx_I (((p : Nat) : Int)))]) C 0 d_Se_isAnyTooNear_27 rfl (by rw [hnL]; decide) rfl ?_
          refine sx_goto C 2 d_Se_isAnyTooNear_30 (by decide) ?_
          refine sx_sub [0, 1, 2, 3] rfl ?_
          exact ih (q + 1) (by omega) ⟨h1, by rintro ⟨z1, z2⟩; first | (rcases hv with ⟨y1, y2⟩ | ⟨y1, y2⟩; omega; rw [y2] at z1; cases z1) | (rcases hb19 with ⟨y1, y2⟩ | ⟨y1, y2⟩; omega; exact y2 z2)⟩ (by omega)
        · refine sx_iconst C d_Se_isAnyTooNear_25 ?_
          refine sx_zreturn C Rr (by omega) rfl d_Se_isAnyTooNear_26 ?_
          refine ⟨rfl, rfl, 1, rfl, Or.inl ⟨rfl, fun z => ?_⟩⟩
          rcases hb19 with ⟨q1, q2⟩ | ⟨q1, q2⟩
          · exact nb_at (n := p) (q := q) (by omega) z ⟨by rcases hv with ⟨z1, z2⟩ | ⟨z1, z2⟩; exact z2; omega, q2⟩
          · omega
set_option maxRecDepth 100000 in
set_option maxHeartbeats 4000000 in
theorem ct_Se_isAnyTooNear (l : Launch) (D : va_G) (tc : Nat → ClassId) (M : sx_M0) (hT : tw M) (s p : Nat) (hs : s < 32) (hp : p < 5) : sx_Met SC l D tc y_Se_isAnyTooNear w_Se_isAnyTooNear (rmk 2 80) [sx_A (1), sx_I (((s : Nat) : Int)), sx_I (((p : Nat) : Int))] GL M (fun r G' M' => G' = GL ∧ M' = M ∧ bz (¬ nbS M s p p) r) := by
  refine sx_enter (by decide) rfl (Nat.le_of_ble_eq_true rfl) (Ts := g_tbl) (fun _ h => List.mem_cons_of_mem _ h) (fun E C Rr hnm hnL => ?_)
  refine sx_iconst C d_Se_isAnyTooNear_0 ?_
  refine sx_istore_n (lv' := [(3, sx_I (0)), (0, sx_A (1)), (1, sx_I (((s : Nat) : Int))), (2, sx_I (((p : Nat) : Int)))]) C d_Se_isAnyTooNear_1 rfl (by rw [hnL]; decide) rfl ?_
  refine sx_sub [0, 1, 2, 3] rfl ?_
  exact lp_Se_isAnyTooNear M hT s p hs hp C Rr hnL _ 0 (Nat.lt_succ_self _) trivial (Nat.zero_le _)
