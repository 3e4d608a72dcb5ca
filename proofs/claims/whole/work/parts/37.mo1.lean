/-- the reference's town is the class's -/
def rT (M : sx_M0) : Prop := M 53 0 = M 1 0 ∧ M 53 1 = M 1 1 ∧ M 53 11 = M 1 2 ∧ (∀ d, d < 6 → M 54 d = M 2 d) ∧ (∀ d : Nat, (d : Int) < M 1 0 → M 55 d = M 3 d) ∧ (∀ d p : Nat, (d : Int) < M 1 0 → p < 5 → M 62 (5 * d + p) = M (4 + 1 + d) p) ∧ (∀ p, p < 5 → M 56 p = M 11 p ∧ M 57 p = M 12 p ∧ M 58 p = M 13 p ∧ M 59 p = M 14 p ∧ M 60 p = M 15 p ∧ M 61 p = M 16 p)
theorem bit_6 : ∀ u, u < 64 → ∀ p, p < 6 → (sx_and (sx_shr ((u : Nat) : Int) ((p : Nat) : Int)) 1 = 1 ∧ u.testBit p = true) ∨ (sx_and (sx_shr ((u : Nat) : Int) ((p : Nat) : Int)) 1 = 0 ∧ u.testBit p = false) := by decide +kernel
set_option maxRecDepth 100000 in
set_option maxHeartbeats 4000000 in
theorem ct_Mo_isIn (l : Launch) (D : va_G) (tc : Nat → ClassId) (M : sx_M0) (x lo hi : Int) (hx : sx_r64 x) (hlo : sx_r64 lo) (hhi : sx_r64 hi) : sx_Met SC l D tc y_Mo_isIn w_Mo_isIn (rmk 0 0) [sx_J (x), sx_J (lo), sx_J (hi)] GL M (fun r G' M' => G' = GL ∧ M' = M ∧ bz (lo ≤ x ∧ x ≤ hi) r) := by
  refine sx_enter (by decide) rfl (Nat.le_of_ble_eq_true rfl) (Ts := g_tbl) (fun _ h => List.mem_cons_of_mem _ h) (fun E C Rr hnm hnL => ?_)
  refine sx_lload_n C 0 d_Mo_isIn_0 rfl rfl ?_
  refine sx_lload_n C 1 d_Mo_isIn_1 rfl rfl ?_
  refine sx_lcmp_lt C 17 ⟨by omega, by omega⟩ ⟨by omega, by omega⟩ d_Mo_isIn_2 d_Mo_isIn_3 (by decide) (fun c3 => ?_) (fun c3 => ?_)
  · refine sx_iconst C d_Mo_isIn_17 ?_
    refine sx_zreturn C Rr (by omega) rfl d_Mo_isIn_18 ?_
    exact ⟨rfl, rfl, 0, rfl, Or.inr ⟨rfl, by omega⟩⟩
  · refine sx_lload_n C 0 d_Mo_isIn_6 rfl rfl ?_
    refine sx_lload C 2 d_Mo_isIn_7 rfl ?_
    refine sx_lcmp_gt C 17 ⟨by omega, by omega⟩ ⟨by omega, by omega⟩ d_Mo_isIn_9 d_Mo_isIn_10 (by decide) (fun c10 => ?_) (fun c10 => ?_)
    · refine sx_iconst C d_Mo_isIn_17 ?_
      refine sx_zreturn C Rr (by omega) rfl d_Mo_isIn_18 ?_
      exact ⟨rfl, rfl, 0, rfl, Or.inr ⟨rfl, by omega⟩⟩
    · refine sx_iconst C d_Mo_isIn_13 ?_
      refine sx_goto C 18 d_Mo_isIn_14 (by decide) ?_
      refine sx_zreturn C Rr (by omega) rfl d_Mo_isIn_18 ?_
      exact ⟨rfl, rfl, 1, rfl, Or.inl ⟨rfl, by omega⟩⟩
set_option maxRecDepth 100000 in
set_option maxHeartbeats 4000000 in
theorem ct_Mo_isDistrict (l : Launch) (D : va_G) (tc : Nat → ClassId) (M : sx_M0) (hD : 0 ≤ M 53 0 ∧ M 53 0 ≤ 6) (x : Int) (hx : sx_r32 x) : sx_Met SC l D tc y_Mo_isDistrict w_Mo_isDistrict (rmk 0 0) [sx_A (53), sx_I (x)] GL M (fun r G' M' => G' = GL ∧ M' = M ∧ bz (0 ≤ x ∧ x < M 53 0) r) := by
  refine sx_enter (by decide) rfl (Nat.le_of_ble_eq_true rfl) (Ts := g_tbl) (fun _ h => List.mem_cons_of_mem _ h) (fun E C Rr hnm hnL => ?_)
  refine sx_iload_n C 1 d_Mo_isDistrict_0 rfl rfl ?_
  refine sx_if_lt C 16 ⟨by omega, by omega⟩ d_Mo_isDistrict_1 (by decide) (fun c1 => ?_) (fun c1 => ?_)
  · refine sx_iconst C d_Mo_isDistrict_16 ?_
    refine sx_zreturn C Rr (by omega) rfl d_Mo_isDistrict_17 ?_
    exact ⟨rfl, rfl, 0, rfl, Or.inr ⟨rfl, by omega⟩⟩
  · refine sx_iload_n C 1 d_Mo_isDistrict_4 rfl rfl ?_
    refine sx_aload_n C 0 d_Mo_isDistrict_5 rfl rfl ?_
    refine sx_geti C f_Mo_73 (by decide) rfl d_Mo_isDistrict_6 ?_
    refine sx_icmp_ge C 16 ⟨by omega, by omega⟩ ⟨by omega, by omega⟩ d_Mo_isDistrict_9 (by decide) (fun c9 => ?_) (fun c9 => ?_)
    · refine sx_iconst C d_Mo_isDistrict_16 ?_
      refine sx_zreturn C Rr (by omega) rfl d_Mo_isDistrict_17 ?_
      exact ⟨rfl, rfl, 0, rfl, Or.inr ⟨rfl, by omega⟩⟩
    · refine sx_iconst C d_Mo_isDistrict_12 ?_
      refine sx_goto C 17 d_Mo_isDistrict_13 (by decide) ?_
      refine sx_zreturn C Rr (by omega) rfl d_Mo_isDistrict_17 ?_
      exact ⟨rfl, rfl, 1, rfl, Or.inl ⟨rfl, by omega⟩⟩
set_option maxRecDepth 100000 in
set_option maxHeartbeats 4000000 in
theorem ct_Mo_isPlace (l : Launch) (D : va_G) (tc : Nat → ClassId) (M : sx_M0) (hP : 0 ≤ M 53 1 ∧ M 53 1 ≤ 5) (x : Int) (hx : sx_r32 x) : sx_Met SC l D tc y_Mo_isPlace w_Mo_isPlace (rmk 0 0) [sx_A (53), sx_I (x)] GL M (fun r G' M' => G' = GL ∧ M' = M ∧ bz (0 ≤ x ∧ x < M 53 1) r) := by
  refine sx_enter (by decide) rfl (Nat.le_of_ble_eq_true rfl) (Ts := g_tbl) (fun _ h => List.mem_cons_of_mem _ h) (fun E C Rr hnm hnL => ?_)
  refine sx_iload_n C 1 d_Mo_isPlace_0 rfl rfl ?_
  refine sx_if_lt C 16 ⟨by omega, by omega⟩ d_Mo_isPlace_1 (by decide) (fun c1 => ?_) (fun c1 => ?_)
  · refine sx_iconst C d_Mo_isPlace_16 ?_
    refine sx_zreturn C Rr (by omega) rfl d_Mo_isPlace_17 ?_
    exact ⟨rfl, rfl, 0, rfl, Or.inr ⟨rfl, by omega⟩⟩
  · refine sx_iload_n C 1 d_Mo_isPlace_4 rfl rfl ?_
    refine sx_aload_n C 0 d_Mo_isPlace_5 rfl rfl ?_
    refine sx_geti C f_Mo_77 (by decide) rfl d_Mo_isPlace_6 ?_
    refine sx_icmp_ge C 16 ⟨by omega, by omega⟩ ⟨by omega, by omega⟩ d_Mo_isPlace_9 (by decide) (fun c9 => ?_) (fun c9 => ?_)
    · refine sx_iconst C d_Mo_isPlace_16 ?_
      refine sx_zreturn C Rr (by omega) rfl d_Mo_isPlace_17 ?_
      exact ⟨rfl, rfl, 0, rfl, Or.inr ⟨rfl, by omega⟩⟩
    · refine sx_iconst C d_Mo_isPlace_12 ?_
      refine sx_goto C 17 d_Mo_isPlace_13 (by decide) ?_
      refine sx_zreturn C Rr (by omega) rfl d_Mo_isPlace_17 ?_
      exact ⟨rfl, rfl, 1, rfl, Or.inl ⟨rfl, by omega⟩⟩
set_option maxRecDepth 100000 in
set_option maxHeartbeats 4000000 in
theorem ct_Mo_has (l : Launch) (D : va_G) (tc : Nat → ClassId) (M : sx_M0) (u k : Nat) (hu : u < 64) (hk : k < 6) : sx_Met SC l D tc y_Mo_has w_Mo_has (rmk 0 0) [sx_I (((u : Nat) : Int)), sx_I (((k : Nat) : Int))] GL M (fun r G' M' => G' = GL ∧ M' = M ∧ bz (u.testBit k = true) r) := by
  refine sx_enter (by decide) rfl (Nat.le_of_ble_eq_true rfl) (Ts := g_tbl) (fun _ h => List.mem_cons_of_mem _ h) (fun E C Rr hnm hnL => ?_)
  refine sx_iload_n C 0 d_Mo_has_0 rfl rfl ?_
  refine sx_iload_n C 1 d_Mo_has_1 rfl rfl ?_
  refine sx_ishr C d_Mo_has_2 ?_
  refine sx_iconst C d_Mo_has_3 ?_
  refine sx_iand C d_Mo_has_4 ?_
  have hv := bit_6 u hu k hk
  generalize (sx_and (sx_shr ((u : Nat) : Int) ((k : Nat) : Int)) 1) = v at hv ⊢
  refine sx_iconst C d_Mo_has_5 ?_
  refine sx_icmp_ne C 13 ⟨by omega, by omega⟩ ⟨by omega, by omega⟩ d_Mo_has_6 (by decide) (fun c6 => ?_) (fun c6 => ?_)
  · refine sx_iconst C d_Mo_has_13 ?_
    refine sx_zreturn C Rr (by omega) rfl d_Mo_has_14 ?_
    exact ⟨rfl, rfl, 0, rfl, Or.inr ⟨rfl, by rcases hv with ⟨z1, z2⟩ | ⟨z1, z2⟩; omega; rw [z2]; exact Bool.false_ne_true⟩⟩
  · refine sx_iconst C d_Mo_has_9 ?_
    refine sx_goto C 14 d_Mo_has_10 (by decide) ?_
    refine sx_zreturn C Rr (by omega) rfl d_Mo_has_14 ?_
    exact ⟨rfl, rfl, 1, rfl, Or.inl ⟨rfl, by rcases hv with ⟨z1, z2⟩ | ⟨z1, z2⟩; exact z2; omega⟩⟩
set_option maxRecDepth 100000 in
set_option maxHeartbeats 4000000 in
theorem ct_Mo_walk (l : Launch) (D : va_G) (tc : Nat → ClassId) (M : sx_M0) (hD : 0 ≤ M 53 0 ∧ M 53 0 ≤ 6) (hP : 0 ≤ M 53 1 ∧ M 53 1 ≤ 5) (d p x : Int) (hd : sx_r32 d) (hp : sx_r32 p) (hx : sx_r64 x) : sx_Met SC l D tc y_Mo_walk w_Mo_walk (rmk 1 40) [sx_A (53), sx_I (d), sx_I (p), sx_J (x)] GL M (fun r G' M' => G' = GL ∧ r = some (sx_I (if 0 ≤ d ∧ d < M 53 0 ∧ 0 ≤ p ∧ p < M 53 1 ∧ 0 ≤ x ∧ x ≤ 10000 then 1 else 0)) ∧ M' = if 0 ≤ d ∧ d < M 53 0 ∧ 0 ≤ p ∧ p < M 53 1 ∧ 0 ≤ x ∧ x ≤ 10000 then sx_up (sx_up M 62 (5 * d.toNat + p.toNat) x) 53 15 0 else M) := by
  refine sx_enter (by decide) rfl (Nat.le_of_ble_eq_true rfl) (Ts := g_tbl) (fun _ h => List.mem_cons_of_mem _ h) (fun E C Rr hnm hnL => ?_)
  refine sx_aload_n C 0 d_Mo_walk_0 rfl rfl ?_
  refine sx_iload_n C 1 d_Mo_walk_1 rfl rfl ?_
  refine sx_callV (n := 71) (As := [sx_I (d)]) (st := []) C (ct_Mo_isDistrict _ _ _ M hD d (by constructor <;> omega)) rfl (by decide) rfl (cv_Mo_96 E C _ (by rw [Rr.2.2]; decide)) (Nat.le_of_ble_eq_true rfl) d_Mo_walk_2 (by rw [Rr.2.2]; decide) (by decide) rfl rfl rfl (fun r2 G2 M2 hpo _ => ?_)
  obtain ⟨e1, e2, b2, rfl, hb2⟩ := hpo
  rw [e1, e2]
  show sx_X SC E (0, 0) GL M 5 [(0, sx_A (53)), (1, sx_I (d)), (2, sx_I (p)), (3, sx_J (x))] [sx_I (b2)]
  refine sx_if_eq C 27 ⟨by omega, by omega⟩ d_Mo_walk_5 (by decide) (fun c5 => ?_) (fun c5 => ?_)
  · refine sx_iconst C d_Mo_walk_27 ?_
    refine sx_zreturn C Rr (by omega) rfl d_Mo_walk_28 ?_
    exact ⟨rfl, by rw [if_neg (by omega)], by rw [if_neg (by omega)]⟩
  · refine sx_aload_n C 0 d_Mo_walk_8 rfl rfl ?_
    refine sx_iload_n C 2 d_Mo_walk_9 rfl rfl ?_
    refine sx_callV (n := 71) (As := [sx_I (p)]) (st := []) C (ct_Mo_isPlace _ _ _ M hP p (by constructor <;> omega)) rfl (by decide) rfl (cv_Mo_100 E C _ (by rw [Rr.2.2]; decide)) (Nat.le_of_ble_eq_true rfl) d_Mo_walk_10 (by rw [Rr.2.2]; decide) (by decide) rfl rfl rfl (fun r10 G10 M10 hpo _ => ?_)
    obtain ⟨e1, e2, b10, rfl, hb10⟩ := hpo
    rw [e1, e2]
    show sx_X SC E (0, 0) GL M 13 [(0, sx_A (53)), (1, sx_I (d)), (2, sx_I (p)), (3, sx_J (x))] [sx_I (b10)]
    refine sx_if_eq C 27 ⟨by omega, by omega⟩ d_Mo_walk_13 (by decide) (fun c13 => ?_) (fun c13 => ?_)
    · refine sx_iconst C d_Mo_walk_27 ?_
      refine sx_zreturn C Rr (by omega) rfl d_Mo_walk_28 ?_
      exact ⟨rfl, by rw [if_neg (by omega)], by rw [if_neg (by omega)]⟩
    · refine sx_lload_n C 3 d_Mo_walk_16 rfl rfl ?_
      refine sx_lconst C 0 rfl d_Mo_walk_17 ?_
      refine sx_ldc2 (v := (10000)) C (10000) (tb_ 525 (by decide +kernel) rfl) (by decide) d_Mo_walk_18 ?_
      refine sx_callS (n := 71) (As := [sx_J (x), sx_J (0), sx_J (10000)]) (st := []) C (ct_Mo_isIn _ _ _ M x 0 10000 (by constructor <;> omega) (by constructor <;> omega) (by constructor <;> omega)) (cv_Mo_82 E C _ (by rw [Rr.2.2]; decide)) (Nat.le_of_ble_eq_true rfl) d_Mo_walk_21 (by rw [Rr.2.2]; decide) (by decide) rfl rfl rfl (fun r21 G21 M21 hpo _ => ?_)
      obtain ⟨e1, e2, b21, rfl, hb21⟩ := hpo
      rw [e1, e2]
      show sx_X SC E (0, 0) GL M 24 [(0, sx_A (53)), (1, sx_I (d)), (2, sx_I (p)), (3, sx_J (x))] [sx_I (b21)]
      refine sx_if_ne C 29 ⟨by omega, by omega⟩ d_Mo_walk_24 (by decide) (fun c24 => ?_) (fun c24 => ?_)
      · refine sx_aload_n C 0 d_Mo_walk_29 rfl rfl ?_
        refine sx_getr C f_Mo_35 62 (by decide) rfl rfl d_Mo_walk_30 ?_
        refine sx_iconst C d_Mo_walk_33 ?_
        refine sx_iload_n C 1 d_Mo_walk_34 rfl rfl ?_
        refine sx_imul C d_Mo_walk_35 ?_
        refine sx_iload_n C 2 d_Mo_walk_36 rfl rfl ?_
        refine sx_iadd C d_Mo_walk_37 ?_
        refine sx_lload_n C 3 d_Mo_walk_38 rfl rfl ?_
        refine sx_lastore C (5 * d.toNat + p.toNat) (by decide) rfl rfl (by omega) (by omega) (by decide) d_Mo_walk_39 ?_
        refine sx_aload_n C 0 d_Mo_walk_40 rfl rfl ?_
        refine sx_iconst C d_Mo_walk_41 ?_
        refine sx_putz C p_Mo_86 (by omega) (by decide) rfl d_Mo_walk_42 ?_
        refine sx_iconst C d_Mo_walk_45 ?_
        refine sx_zreturn C Rr (by omega) rfl d_Mo_walk_46 ?_
        exact ⟨rfl, by rw [if_pos (by omega)], by rw [if_pos (by omega)]⟩
      · refine sx_iconst C d_Mo_walk_27 ?_
        refine sx_zreturn C Rr (by omega) rfl d_Mo_walk_28 ?_
        exact ⟨rfl, by rw [if_neg (by omega)], by rw [if_neg (by omega)]⟩
set_option maxRecDepth 100000 in
set_option maxHeartbeats 4000000 in
theorem ct_Mo_bar (l : Launch) (D : va_G) (tc : Nat → ClassId) (M : sx_M0) (hD : 0 ≤ M 53 0 ∧ M 53 0 ≤ 6) (hP : 0 ≤ M 53 1 ∧ M 53 1 ≤ 5) (hB : ∀ p, p < 5 → M 61 p = 0 ∨ M 61 p = 1) (p : Int) (hp : sx_r32 p) : sx_Met SC l D tc y_Mo_bar w_Mo_bar (rmk 1 40) [sx_A (53), sx_I (p)] GL M (fun r G' M' => G' = GL ∧ r = some (sx_I (if 0 ≤ p ∧ p < M 53 1 ∧ M 61 p.toNat = 0 then 1 else 0)) ∧ M' = if 0 ≤ p ∧ p < M 53 1 ∧ M 61 p.toNat = 0 then sx_up (sx_up M 61 p.toNat 1) 53 15 0 else M) := by
  refine sx_enter (by decide) rfl (Nat.le_of_ble_eq_true rfl) (Ts := g_tbl) (fun _ h => List.mem_cons_of_mem _ h) (fun E C Rr hnm hnL => ?_)
  refine sx_aload_n C 0 d_Mo_bar_0 rfl rfl ?_
  refine sx_iload_n C 1 d_Mo_bar_1 rfl rfl ?_
  refine sx_callV (n := 71) (As := [sx_I (p)]) (st := []) C (ct_Mo_isPlace _ _ _ M hP p (by constructor <;> omega)) rfl (by decide) rfl (cv_Mo_100 E C _ (by rw [Rr.2.2]; decide)) (Nat.le_of_ble_eq_true rfl) d_Mo_bar_2 (by rw [Rr.2.2]; decide) (by decide) rfl rfl rfl (fun r2 G2 M2 hpo _ => ?_)
  obtain ⟨e1, e2, b2, rfl, hb2⟩ := hpo
  rw [e1, e2]
  show sx_X SC E (0, 0) GL M 5 [(0, sx_A (53)), (1, sx_I (p))] [sx_I (b2)]
  refine sx_if_eq C 17 ⟨by omega, by omega⟩ d_Mo_bar_5 (by decide) (fun c5 => ?_) (fun c5 => ?_)
  · refine sx_iconst C d_Mo_bar_17 ?_
    refine sx_zreturn C Rr (by omega) rfl d_Mo_bar_18 ?_
    exact ⟨rfl, by rw [if_neg (by omega)], by rw [if_neg (by omega)]⟩
  · have hb := hB p.toNat (by omega)
    refine sx_aload_n C 0 d_Mo_bar_8 rfl rfl ?_
    refine sx_getr C f_Mo_31 61 (by decide) rfl rfl d_Mo_bar_9 ?_
    refine sx_iload_n C 1 d_Mo_bar_12 rfl rfl ?_
    refine sx_zaload C p.toNat (by decide) rfl rfl (by omega) (by omega) (by decide) d_Mo_bar_13 ?_
    refine sx_if_eq C 19 ⟨by omega, by omega⟩ d_Mo_bar_14 (by decide) (fun c14 => ?_) (fun c14 => ?_)
    · refine sx_aload_n C 0 d_Mo_bar_19 rfl rfl ?_
      refine sx_getr C f_Mo_31 61 (by decide) rfl rfl d_Mo_bar_20 ?_
      refine sx_iload_n C 1 d_Mo_bar_23 rfl rfl ?_
      refine sx_iconst C d_Mo_bar_24 ?_
      refine sx_zastore C p.toNat (by omega) (by decide) rfl rfl (by omega) (by omega) (by decide) d_Mo_bar_25 ?_
      refine sx_aload_n C 0 d_Mo_bar_26 rfl rfl ?_
      refine sx_iconst C d_Mo_bar_27 ?_
      refine sx_putz C p_Mo_86 (by omega) (by decide) rfl d_Mo_bar_28 ?_
      refine sx_iconst C d_Mo_bar_31 ?_
      refine sx_zreturn C Rr (by omega) rfl d_Mo_bar_32 ?_
      exact ⟨rfl, by rw [if_pos (by omega)], by rw [if_pos (by omega)]⟩
    · refine sx_iconst C d_Mo_bar_17 ?_
      refine sx_zreturn C Rr (by omega) rfl d_Mo_bar_18 ?_
      exact ⟨rfl, by rw [if_neg (by omega)], by rw [if_neg (by omega)]⟩
set_option maxRecDepth 100000 in
set_option maxHeartbeats 4000000 in
theorem ct_Mo_noise (l : Launch) (D : va_G) (tc : Nat → ClassId) (M : sx_M0) (hD : 0 ≤ M 53 0 ∧ M 53 0 ≤ 6) (hP : 0 ≤ M 53 1 ∧ M 53 1 ≤ 5) (p x : Int) (hp : sx_r32 p) (hx : sx_r64 x) : sx_Met SC l D tc y_Mo_noise w_Mo_noise (rmk 1 40) [sx_A (53), sx_I (p), sx_J (x)] GL M (fun r G' M' => G' = GL ∧ r = some (sx_I (if 0 ≤ p ∧ p < M 53 1 ∧ 0 ≤ x ∧ x ≤ 3000 then 1 else 0)) ∧ M' = if 0 ≤ p ∧ p < M 53 1 ∧ 0 ≤ x ∧ x ≤ 3000 then sx_up (sx_up M 60 p.toNat x) 53 15 0 else M) := by
  refine sx_enter (by decide) rfl (Nat.le_of_ble_eq_true rfl) (Ts := g_tbl) (fun _ h => List.mem_cons_of_mem _ h) (fun E C Rr hnm hnL => ?_)
  refine sx_aload_n C 0 d_Mo_noise_0 rfl rfl ?_
  refine sx_iload_n C 1 d_Mo_noise_1 rfl rfl ?_
  refine sx_callV (n := 71) (As := [sx_I (p)]) (st := []) C (ct_Mo_isPlace _ _ _ M hP p (by constructor <;> omega)) rfl (by decide) rfl (cv_Mo_100 E C _ (by rw [Rr.2.2]; decide)) (Nat.le_of_ble_eq_true rfl) d_Mo_noise_2 (by rw [Rr.2.2]; decide) (by decide) rfl rfl rfl (fun r2 G2 M2 hpo _ => ?_)
  obtain ⟨e1, e2, b2, rfl, hb2⟩ := hpo
  rw [e1, e2]
  show sx_X SC E (0, 0) GL M 5 [(0, sx_A (53)), (1, sx_I (p)), (2, sx_J (x))] [sx_I (b2)]
  refine sx_if_eq C 19 ⟨by omega, by omega⟩ d_Mo_noise_5 (by decide) (fun c5 => ?_) (fun c5 => ?_)
  · refine sx_iconst C d_Mo_noise_19 ?_
    refine sx_zreturn C Rr (by omega) rfl d_Mo_noise_20 ?_
    exact ⟨rfl, by rw [if_neg (by omega)], by rw [if_neg (by omega)]⟩
  · refine sx_lload_n C 2 d_Mo_noise_8 rfl rfl ?_
    refine sx_lconst C 0 rfl d_Mo_noise_9 ?_
    refine sx_ldc2 (v := (3000)) C (3000) (tb_ 638 (by decide +kernel) rfl) (by decide) d_Mo_noise_10 ?_
    refine sx_callS (n := 71) (As := [sx_J (x), sx_J (0), sx_J (3000)]) (st := []) C (ct_Mo_isIn _ _ _ M x 0 3000 (by constructor <;> omega) (by constructor <;> omega) (by constructor <;> omega)) (cv_Mo_82 E C _ (by rw [Rr.2.2]; decide)) (Nat.le_of_ble_eq_true rfl) d_Mo_noise_13 (by rw [Rr.2.2]; decide) (by decide) rfl rfl rfl (fun r13 G13 M13 hpo _ => ?_)
    obtain ⟨e1, e2, b13, rfl, hb13⟩ := hpo
    rw [e1, e2]
    show sx_X SC E (0, 0) GL M 16 [(0, sx_A (53)), (1, sx_I (p)), (2, sx_J (x))] [sx_I (b13)]
    refine sx_if_ne C 21 ⟨by omega, by omega⟩ d_Mo_noise_16 (by decide) (fun c16 => ?_) (fun c16 => ?_)
    · refine sx_aload_n C 0 d_Mo_noise_21 rfl rfl ?_
      refine sx_getr C f_Mo_28 60 (by decide) rfl rfl d_Mo_noise_22 ?_
      refine sx_iload_n C 1 d_Mo_noise_25 rfl rfl ?_
      refine sx_lload_n C 2 d_Mo_noise_26 rfl rfl ?_
      refine sx_lastore C p.toNat (by decide) rfl rfl (by omega) (by omega) (by decide) d_Mo_noise_27 ?_
      refine sx_aload_n C 0 d_Mo_noise_28 rfl rfl ?_
      refine sx_iconst C d_Mo_noise_29 ?_
      refine sx_putz C p_Mo_86 (by omega) (by decide) rfl d_Mo_noise_30 ?_
      refine sx_iconst C d_Mo_noise_33 ?_
      refine sx_zreturn C Rr (by omega) rfl d_Mo_noise_34 ?_
      exact ⟨rfl, by rw [if_pos (by omega)], by rw [if_pos (by omega)]⟩
    · refine sx_iconst C d_Mo_noise_19 ?_
      refine sx_zreturn C Rr (by omega) rfl d_Mo_noise_20 ?_
      exact ⟨rfl, by rw [if_neg (by omega)], by rw [if_neg (by omega)]⟩
set_option maxRecDepth 100000 in
set_option maxHeartbeats 4000000 in
theorem ct_Mo_budget (l : Launch) (D : va_G) (tc : Nat → ClassId) (M : sx_M0) (hD : 0 ≤ M 53 0 ∧ M 53 0 ≤ 6) (hP : 0 ≤ M 53 1 ∧ M 53 1 ≤ 5) (x : Int) (hx : sx_r64 x) : sx_Met SC l D tc y_Mo_budget w_Mo_budget (rmk 1 40) [sx_A (53), sx_J (x)] GL M (fun r G' M' => G' = GL ∧ r = some (sx_I (if 0 ≤ x ∧ x ≤ 10000000 then 1 else 0)) ∧ M' = if 0 ≤ x ∧ x ≤ 10000000 then sx_up (sx_up M 53 11 x) 53 15 0 else M) := by
  refine sx_enter (by decide) rfl (Nat.le_of_ble_eq_true rfl) (Ts := g_tbl) (fun _ h => List.mem_cons_of_mem _ h) (fun E C Rr hnm hnL => ?_)
  refine sx_lload_n C 1 d_Mo_budget_0 rfl rfl ?_
  refine sx_lconst C 0 rfl d_Mo_budget_1 ?_
  refine sx_ldc2 (v := (10000000)) C (10000000) (tb_ 524 (by decide +kernel) rfl) (by decide) d_Mo_budget_2 ?_
  refine sx_callS (n := 71) (As := [sx_J (x), sx_J (0), sx_J (10000000)]) (st := []) C (ct_Mo_isIn _ _ _ M x 0 10000000 (by constructor <;> omega) (by constructor <;> omega) (by constructor <;> omega)) (cv_Mo_82 E C _ (by rw [Rr.2.2]; decide)) (Nat.le_of_ble_eq_true rfl) d_Mo_budget_5 (by rw [Rr.2.2]; decide) (by decide) rfl rfl rfl (fun r5 G5 M5 hpo _ => ?_)
  obtain ⟨e1, e2, b5, rfl, hb5⟩ := hpo
  rw [e1, e2]
  show sx_X SC E (0, 0) GL M 8 [(0, sx_A (53)), (1, sx_J (x))] [sx_I (b5)]
  refine sx_if_ne C 13 ⟨by omega, by omega⟩ d_Mo_budget_8 (by decide) (fun c8 => ?_) (fun c8 => ?_)
  · refine sx_aload_n C 0 d_Mo_budget_13 rfl rfl ?_
    refine sx_lload_n C 1 d_Mo_budget_14 rfl rfl ?_
    refine sx_putl C p_Mo_40 (by decide) rfl d_Mo_budget_15 ?_
    refine sx_aload_n C 0 d_Mo_budget_18 rfl rfl ?_
    refine sx_iconst C d_Mo_budget_19 ?_
    refine sx_putz C p_Mo_86 (by omega) (by decide) rfl d_Mo_budget_20 ?_
    refine sx_iconst C d_Mo_budget_23 ?_
    refine sx_zreturn C Rr (by omega) rfl d_Mo_budget_24 ?_
    exact ⟨rfl, by rw [if_pos (by omega)], by rw [if_pos (by omega)]⟩
  · refine sx_iconst C d_Mo_budget_11 ?_
    refine sx_zreturn C Rr (by omega) rfl d_Mo_budget_12 ?_
    exact ⟨rfl, by rw [if_neg (by omega)], by rw [if_neg (by omega)]⟩
set_option maxRecDepth 100000 in
set_option maxHeartbeats 4000000 in
theorem ct_Mo_fair (l : Launch) (D : va_G) (tc : Nat → ClassId) (M : sx_M0) (hD : 0 ≤ M 53 0 ∧ M 53 0 ≤ 6) (hP : 0 ≤ M 53 1 ∧ M 53 1 ≤ 5) (d x : Int) (hd : sx_r32 d) (hx : sx_r64 x) : sx_Met SC l D tc y_Mo_fair w_Mo_fair (rmk 1 40) [sx_A (53), sx_I (d), sx_J (x)] GL M (fun r G' M' => G' = GL ∧ r = some (sx_I (if 0 ≤ d ∧ d < M 53 0 ∧ 0 ≤ x ∧ x ≤ 10000 then 1 else 0)) ∧ M' = if 0 ≤ d ∧ d < M 53 0 ∧ 0 ≤ x ∧ x ≤ 10000 then sx_up (sx_up M 55 d.toNat x) 53 15 0 else M) := by
  refine sx_enter (by decide) rfl (Nat.le_of_ble_eq_true rfl) (Ts := g_tbl) (fun _ h => List.mem_cons_of_mem _ h) (fun E C Rr hnm hnL => ?_)
  refine sx_aload_n C 0 d_Mo_fair_0 rfl rfl ?_
  refine sx_iload_n C 1 d_Mo_fair_1 rfl rfl ?_
  refine sx_callV (n := 71) (As := [sx_I (d)]) (st := []) C (ct_Mo_isDistrict _ _ _ M hD d (by constructor <;> omega)) rfl (by decide) rfl (cv_Mo_96 E C _ (by rw [Rr.2.2]; decide)) (Nat.le_of_ble_eq_true rfl) d_Mo_fair_2 (by rw [Rr.2.2]; decide) (by decide) rfl rfl rfl (fun r2 G2 M2 hpo _ => ?_)
  obtain ⟨e1, e2, b2, rfl, hb2⟩ := hpo
  rw [e1, e2]
  show sx_X SC E (0, 0) GL M 5 [(0, sx_A (53)), (1, sx_I (d)), (2, sx_J (x))] [sx_I (b2)]
  refine sx_if_eq C 19 ⟨by omega, by omega⟩ d_Mo_fair_5 (by decide) (fun c5 => ?_) (fun c5 => ?_)
  · refine sx_iconst C d_Mo_fair_19 ?_
    refine sx_zreturn C Rr (by omega) rfl d_Mo_fair_20 ?_
    exact ⟨rfl, by rw [if_neg (by omega)], by rw [if_neg (by omega)]⟩
  · refine sx_lload_n C 2 d_Mo_fair_8 rfl rfl ?_
    refine sx_lconst C 0 rfl d_Mo_fair_9 ?_
    refine sx_ldc2 (v := (10000)) C (10000) (tb_ 525 (by decide +kernel) rfl) (by decide) d_Mo_fair_10 ?_
    refine sx_callS (n := 71) (As := [sx_J (x), sx_J (0), sx_J (10000)]) (st := []) C (ct_Mo_isIn _ _ _ M x 0 10000 (by constructor <;> omega) (by constructor <;> omega) (by constructor <;> omega)) (cv_Mo_82 E C _ (by rw [Rr.2.2]; decide)) (Nat.le_of_ble_eq_true rfl) d_Mo_fair_13 (by rw [Rr.2.2]; decide) (by decide) rfl rfl rfl (fun r13 G13 M13 hpo _ => ?_)
    obtain ⟨e1, e2, b13, rfl, hb13⟩ := hpo
    rw [e1, e2]
    show sx_X SC E (0, 0) GL M 16 [(0, sx_A (53)), (1, sx_I (d)), (2, sx_J (x))] [sx_I (b13)]
    refine sx_if_ne C 21 ⟨by omega, by omega⟩ d_Mo_fair_16 (by decide) (fun c16 => ?_) (fun c16 => ?_)
    · refine sx_aload_n C 0 d_Mo_fair_21 rfl rfl ?_
      refine sx_getr C f_Mo_13 55 (by decide) rfl rfl d_Mo_fair_22 ?_
      refine sx_iload_n C 1 d_Mo_fair_25 rfl rfl ?_
      refine sx_lload_n C 2 d_Mo_fair_26 rfl rfl ?_
      refine sx_lastore C d.toNat (by decide) rfl rfl (by omega) (by omega) (by decide) d_Mo_fair_27 ?_
      refine sx_aload_n C 0 d_Mo_fair_28 rfl rfl ?_
      refine sx_iconst C d_Mo_fair_29 ?_
      refine sx_putz C p_Mo_86 (by omega) (by decide) rfl d_Mo_fair_30 ?_
      refine sx_iconst C d_Mo_fair_33 ?_
      refine sx_zreturn C Rr (by omega) rfl d_Mo_fair_34 ?_
      exact ⟨rfl, by rw [if_pos (by omega)], by rw [if_pos (by omega)]⟩
    · refine sx_iconst C d_Mo_fair_19 ?_
      refine sx_zreturn C Rr (by omega) rfl d_Mo_fair_20 ?_
      exact ⟨rfl, by rw [if_neg (by omega)], by rw [if_neg (by omega)]⟩
def mdM (M : sx_M0) (x : Int) : sx_M0 := sx_up (sx_up (sx_up M 54 (M 53 0).toNat x) 53 0 (M 53 0 + 1)) 53 15 0
def mpM (M : sx_M0) (x y c q : Int) : sx_M0 := sx_up (sx_up (sx_up (sx_up (sx_up (sx_up M 56 (M 53 1).toNat x) 57 (M 53 1).toNat y) 58 (M 53 1).toNat c) 59 (M 53 1).toNat q) 53 1 (M 53 1 + 1)) 53 15 0
set_option maxRecDepth 100000 in
set_option maxHeartbeats 4000000 in
theorem ct_Mo_district (l : Launch) (D : va_G) (tc : Nat → ClassId) (M : sx_M0) (hD : 0 ≤ M 53 0 ∧ M 53 0 ≤ 6) (x : Int) (hx : sx_r64 x) : sx_Met SC l D tc y_Mo_district w_Mo_district (rmk 1 40) [sx_A (53), sx_J (x)] GL M (fun r G' M' => G' = GL ∧ r = some (sx_I (if M 53 0 ≠ 6 ∧ 0 ≤ x ∧ x ≤ 100 then M 53 0 else -1)) ∧ M' = if M 53 0 ≠ 6 ∧ 0 ≤ x ∧ x ≤ 100 then mdM M x else M) := by
  refine sx_enter (by decide) rfl (Nat.le_of_ble_eq_true rfl) (Ts := g_tbl) (fun _ h => List.mem_cons_of_mem _ h) (fun E C Rr hnm hnL => ?_)
  refine sx_aload_n C 0 d_Mo_district_0 rfl rfl ?_
  refine sx_geti C f_Mo_73 (by decide) rfl d_Mo_district_1 ?_
  refine sx_bipush C d_Mo_district_4 (by decide) ?_
  refine sx_icmp_eq C 20 ⟨by omega, by omega⟩ ⟨by omega, by omega⟩ d_Mo_district_6 (by decide) (fun c6 => ?_) (fun c6 => ?_)
  · refine sx_iconst C d_Mo_district_20 ?_
    refine sx_ireturn C Rr rfl d_Mo_district_21 ?_
    exact ⟨rfl, by rw [if_neg (by omega)], by rw [if_neg (by omega)]⟩
  · refine sx_lload_n C 1 d_Mo_district_9 rfl rfl ?_
    refine sx_lconst C 0 rfl d_Mo_district_10 ?_
    refine sx_ldc2 (v := (100)) C (100) (tb_ 607 (by decide +kernel) rfl) (by decide) d_Mo_district_11 ?_
    refine sx_callS (n := 71) (As := [sx_J (x), sx_J (0), sx_J (100)]) (st := []) C (ct_Mo_isIn _ _ _ M x 0 100 (by constructor <;> omega) (by constructor <;> omega) (by constructor <;> omega)) (cv_Mo_82 E C _ (by rw [Rr.2.2]; decide)) (Nat.le_of_ble_eq_true rfl) d_Mo_district_14 (by rw [Rr.2.2]; decide) (by decide) rfl rfl rfl (fun r14 G14 M14 hpo _ => ?_)
    obtain ⟨e1, e2, b14, rfl, hb14⟩ := hpo
    rw [e1, e2]
    show sx_X SC E (0, 0) GL M 17 [(0, sx_A (53)), (1, sx_J (x))] [sx_I (b14)]
    refine sx_if_ne C 22 ⟨by omega, by omega⟩ d_Mo_district_17 (by decide) (fun c17 => ?_) (fun c17 => ?_)
    · refine sx_aload_n C 0 d_Mo_district_22 rfl rfl ?_
      refine sx_getr C f_Mo_7 54 (by decide) rfl rfl d_Mo_district_23 ?_
      refine sx_aload_n C 0 d_Mo_district_26 rfl rfl ?_
      refine sx_geti C f_Mo_73 (by decide) rfl d_Mo_district_27 ?_
      refine sx_lload_n C 1 d_Mo_district_30 rfl rfl ?_
      refine sx_lastore C (M 53 0).toNat (by decide) rfl rfl (by omega) (by omega) (by decide) d_Mo_district_31 ?_
      refine sx_aload_n C 0 d_Mo_district_32 rfl rfl ?_
      refine sx_dup C d_Mo_district_33 rfl ?_
      refine sx_geti C f_Mo_73 (by decide) rfl d_Mo_district_34 ?_
      rw [show (sx_up M 54 (M 53 0).toNat x) 53 0 = M 53 0 from congrFun (sx_up_ne (by decide)) 0]
      refine sx_iconst C d_Mo_district_37 ?_
      refine sx_iadd C d_Mo_district_38 ?_
      refine sx_puti C p_Mo_73 (by decide) rfl d_Mo_district_39 ?_
      refine sx_aload_n C 0 d_Mo_district_42 rfl rfl ?_
      refine sx_iconst C d_Mo_district_43 ?_
      refine sx_putz C p_Mo_86 (by omega) (by decide) rfl d_Mo_district_44 ?_
      refine sx_aload_n C 0 d_Mo_district_47 rfl rfl ?_
      refine sx_geti C f_Mo_73 (by decide) rfl d_Mo_district_48 ?_
      rw [show sx_up (sx_up (sx_up M 54 (M 53 0).toNat x) 53 0 (M 53 0 + 1)) 53 15 0 53 0 = M 53 0 + 1 from (sx_up_slot (by decide)).trans sx_up_at]
      refine sx_iconst C d_Mo_district_51 ?_
      refine sx_isub C d_Mo_district_52 ?_
      refine sx_ireturn C Rr rfl d_Mo_district_53 ?_
      exact ⟨rfl, by rw [if_pos (by omega)]; congr 2; omega, by rw [if_pos (by omega)]; rfl⟩
    · refine sx_iconst C d_Mo_district_20 ?_
      refine sx_ireturn C Rr rfl d_Mo_district_21 ?_
      exact ⟨rfl, by rw [if_neg (by omega)], by rw [if_neg (by omega)]⟩
set_option maxRecDepth 100000 in
set_option maxHeartbeats 4000000 in
theorem ct_Mo_place (l : Launch) (D : va_G) (tc : Nat → ClassId) (M : sx_M0) (hP : 0 ≤ M 53 1 ∧ M 53 1 ≤ 5) (x y c q : Int) (hx : sx_r64 x) (hy : sx_r64 y) (hc : sx_r64 c) (hq : sx_r64 q) : sx_Met SC l D tc y_Mo_place w_Mo_place (rmk 1 40) [sx_A (53), sx_J (x), sx_J (y), sx_J (c), sx_J (q)] GL M (fun r G' M' => G' = GL ∧ r = some (sx_I (if M 53 1 ≠ 5 ∧ -1000 ≤ x ∧ x ≤ 1000 ∧ -1000 ≤ y ∧ y ≤ 1000 ∧ 0 ≤ c ∧ c ≤ 1000000 ∧ 0 ≤ q ∧ q ≤ 1000 then M 53 1 else -1)) ∧ M' = if M 53 1 ≠ 5 ∧ -1000 ≤ x ∧ x ≤ 1000 ∧ -1000 ≤ y ∧ y ≤ 1000 ∧ 0 ≤ c ∧ c ≤ 1000000 ∧ 0 ≤ q ∧ q ≤ 1000 then mpM M x y c q else M) := by
  refine sx_enter (by decide) rfl (Nat.le_of_ble_eq_true rfl) (Ts := g_tbl) (fun _ h => List.mem_cons_of_mem _ h) (fun E C Rr hnm hnL => ?_)
  refine sx_aload_n C 0 d_Mo_place_0 rfl rfl ?_
  refine sx_geti C f_Mo_77 (by decide) rfl d_Mo_place_1 ?_
  refine sx_iconst C d_Mo_place_4 ?_
  refine sx_icmp_eq C 58 ⟨by omega, by omega⟩ ⟨by omega, by omega⟩ d_Mo_place_5 (by decide) (fun c5 => ?_) (fun c5 => ?_)
  · refine sx_iconst C d_Mo_place_58 ?_
    refine sx_ireturn C Rr rfl d_Mo_place_59 ?_
    exact ⟨rfl, by rw [if_neg (by omega)], by rw [if_neg (by omega)]⟩
  · refine sx_lload_n C 1 d_Mo_place_8 rfl rfl ?_
    refine sx_ldc2 (v := (-1000)) C (-1000) (tb_ 615 (by decide +kernel) rfl) (by decide) d_Mo_place_9 ?_
    refine sx_ldc2 (v := (1000)) C (1000) (tb_ 616 (by decide +kernel) rfl) (by decide) d_Mo_place_12 ?_
    refine sx_callS (n := 71) (As := [sx_J (x), sx_J ((-1000)), sx_J (1000)]) (st := []) C (ct_Mo_isIn _ _ _ M x (-1000) 1000 (by constructor <;> omega) (by constructor <;> omega) (by constructor <;> omega)) (cv_Mo_82 E C _ (by rw [Rr.2.2]; decide)) (Nat.le_of_ble_eq_true rfl) d_Mo_place_15 (by rw [Rr.2.2]; decide) (by decide) rfl rfl rfl (fun r15 G15 M15 hpo _ => ?_)
    obtain ⟨e1, e2, b15, rfl, hb15⟩ := hpo
    rw [e1, e2]
    show sx_X SC E (0, 0) GL M 18 [(0, sx_A (53)), (1, sx_J (x)), (3, sx_J (y)), (5, sx_J (c)), (7, sx_J (q))] [sx_I (b15)]
    refine sx_if_eq C 58 ⟨by omega, by omega⟩ d_Mo_place_18 (by decide) (fun c18 => ?_) (fun c18 => ?_)
    · refine sx_iconst C d_Mo_place_58 ?_
      refine sx_ireturn C Rr rfl d_Mo_place_59 ?_
      exact ⟨rfl, by rw [if_neg (by omega)], by rw [if_neg (by omega)]⟩
    · refine sx_lload_n C 2 d_Mo_place_21 rfl rfl ?_
      refine sx_ldc2 (v := (-1000)) C (-1000) (tb_ 615 (by decide +kernel) rfl) (by decide) d_Mo_place_22 ?_
      refine sx_ldc2 (v := (1000)) C (1000) (tb_ 616 (by decide +kernel) rfl) (by decide) d_Mo_place_25 ?_
      refine sx_callS (n := 71) (As := [sx_J (y), sx_J ((-1000)), sx_J (1000)]) (st := []) C (ct_Mo_isIn _ _ _ M y (-1000) 1000 (by constructor <;> omega) (by constructor <;> omega) (by constructor <;> omega)) (cv_Mo_82 E C _ (by rw [Rr.2.2]; decide)) (Nat.le_of_ble_eq_true rfl) d_Mo_place_28 (by rw [Rr.2.2]; decide) (by decide) rfl rfl rfl (fun r28 G28 M28 hpo _ => ?_)
      obtain ⟨e1, e2, b28, rfl, hb28⟩ := hpo
      rw [e1, e2]
      show sx_X SC E (0, 0) GL M 31 [(0, sx_A (53)), (1, sx_J (x)), (3, sx_J (y)), (5, sx_J (c)), (7, sx_J (q))] [sx_I (b28)]
      refine sx_if_eq C 58 ⟨by omega, by omega⟩ d_Mo_place_31 (by decide) (fun c31 => ?_) (fun c31 => ?_)
      · refine sx_iconst C d_Mo_place_58 ?_
        refine sx_ireturn C Rr rfl d_Mo_place_59 ?_
        exact ⟨rfl, by rw [if_neg (by omega)], by rw [if_neg (by omega)]⟩
      · refine sx_lload C 3 d_Mo_place_34 rfl ?_
        refine sx_lconst C 0 rfl d_Mo_place_36 ?_
        refine sx_ldc2 (v := (1000000)) C (1000000) (tb_ 617 (by decide +kernel) rfl) (by decide) d_Mo_place_37 ?_
        refine sx_callS (n := 71) (As := [sx_J (c), sx_J (0), sx_J (1000000)]) (st := []) C (ct_Mo_isIn _ _ _ M c 0 1000000 (by constructor <;> omega) (by constructor <;> omega) (by constructor <;> omega)) (cv_Mo_82 E C _ (by rw [Rr.2.2]; decide)) (Nat.le_of_ble_eq_true rfl) d_Mo_place_40 (by rw [Rr.2.2]; decide) (by decide) rfl rfl rfl (fun r40 G40 M40 hpo _ => ?_)
        obtain ⟨e1, e2, b40, rfl, hb40⟩ := hpo
        rw [e1, e2]
        show sx_X SC E (0, 0) GL M 43 [(0, sx_A (53)), (1, sx_J (x)), (3, sx_J (y)), (5, sx_J (c)), (7, sx_J (q))] [sx_I (b40)]
        refine sx_if_eq C 58 ⟨by omega, by omega⟩ d_Mo_place_43 (by decide) (fun c43 => ?_) (fun c43 => ?_)
        · refine sx_iconst C d_Mo_place_58 ?_
          refine sx_ireturn C Rr rfl d_Mo_place_59 ?_
          exact ⟨rfl, by rw [if_neg (by omega)], by rw [if_neg (by omega)]⟩
        · refine sx_lload C 4 d_Mo_place_46 rfl ?_
          refine sx_lconst C 0 rfl d_Mo_place_48 ?_
          refine sx_ldc2 (v := (1000)) C (1000) (tb_ 616 (by decide +kernel) rfl) (by decide) d_Mo_place_49 ?_
          refine sx_callS (n := 71) (As := [sx_J (q), sx_J (0), sx_J (1000)]) (st := []) C (ct_Mo_isIn _ _ _ M q 0 1000 (by constructor <;> omega) (by constructor <;> omega) (by constructor <;> omega)) (cv_Mo_82 E C _ (by rw [Rr.2.2]; decide)) (Nat.le_of_ble_eq_true rfl) d_Mo_place_52 (by rw [Rr.2.2]; decide) (by decide) rfl rfl rfl (fun r52 G52 M52 hpo _ => ?_)
          obtain ⟨e1, e2, b52, rfl, hb52⟩ := hpo
          rw [e1, e2]
          show sx_X SC E (0, 0) GL M 55 [(0, sx_A (53)), (1, sx_J (x)), (3, sx_J (y)), (5, sx_J (c)), (7, sx_J (q))] [sx_I (b52)]
          refine sx_if_ne C 60 ⟨by omega, by omega⟩ d_Mo_place_55 (by decide) (fun c55 => ?_) (fun c55 => ?_)
          · refine sx_aload_n C 0 d_Mo_place_60 rfl rfl ?_
            refine sx_getr C f_Mo_16 56 (by decide) rfl rfl d_Mo_place_61 ?_
            refine sx_aload_n C 0 d_Mo_place_64 rfl rfl ?_
            refine sx_geti C f_Mo_77 (by decide) rfl d_Mo_place_65 ?_
            refine sx_lload_n C 1 d_Mo_place_68 rfl rfl ?_
            refine sx_lastore C (M 53 1).toNat (by decide) rfl rfl (by omega) (by omega) (by decide) d_Mo_place_69 ?_
            refine sx_aload_n C 0 d_Mo_place_70 rfl rfl ?_
            refine sx_getr C f_Mo_19 57 (by decide) rfl rfl d_Mo_place_71 ?_
            refine sx_aload_n C 0 d_Mo_place_74 rfl rfl ?_
            refine sx_geti C f_Mo_77 (by decide) rfl d_Mo_place_75 ?_
            rw [show (sx_up M 56 (M 53 1).toNat x) 53 1 = M 53 1 from by simp only [sx_up]; rfl]
            refine sx_lload_n C 2 d_Mo_place_78 rfl rfl ?_
            refine sx_lastore C (M 53 1).toNat (by decide) rfl rfl (by omega) (by omega) (by decide) d_Mo_place_79 ?_
            refine sx_aload_n C 0 d_Mo_place_80 rfl rfl ?_
            refine sx_getr C f_Mo_22 58 (by decide) rfl rfl d_Mo_place_81 ?_
            refine sx_aload_n C 0 d_Mo_place_84 rfl rfl ?_
            refine sx_geti C f_Mo_77 (by decide) rfl d_Mo_place_85 ?_
            rw [show (sx_up (sx_up M 56 (M 53 1).toNat x) 57 (M 53 1).toNat y) 53 1 = M 53 1 from by simp only [sx_up]; rfl]
            refine sx_lload C 3 d_Mo_place_88 rfl ?_
            refine sx_lastore C (M 53 1).toNat (by decide) rfl rfl (by omega) (by omega) (by decide) d_Mo_place_90 ?_
            refine sx_aload_n C 0 d_Mo_place_91 rfl rfl ?_
            refine sx_getr C f_Mo_25 59 (by decide) rfl rfl d_Mo_place_92 ?_
            refine sx_aload_n C 0 d_Mo_place_95 rfl rfl ?_
            refine sx_geti C f_Mo_77 (by decide) rfl d_Mo_place_96 ?_
            rw [show (sx_up (sx_up (sx_up M 56 (M 53 1).toNat x) 57 (M 53 1).toNat y) 58 (M 53 1).toNat c) 53 1 = M 53 1 from by simp only [sx_up]; rfl]
            refine sx_lload C 4 d_Mo_place_99 rfl ?_
            refine sx_lastore C (M 53 1).toNat (by decide) rfl rfl (by omega) (by omega) (by decide) d_Mo_place_101 ?_
            refine sx_aload_n C 0 d_Mo_place_102 rfl rfl ?_
            refine sx_dup C d_Mo_place_103 rfl ?_
            refine sx_geti C f_Mo_77 (by decide) rfl d_Mo_place_104 ?_
            rw [show (sx_up (sx_up (sx_up (sx_up M 56 (M 53 1).toNat x) 57 (M 53 1).toNat y) 58 (M 53 1).toNat c) 59 (M 53 1).toNat q) 53 1 = M 53 1 from by simp only [sx_up]; rfl]
            refine sx_iconst C d_Mo_place_107 ?_
            refine sx_iadd C d_Mo_place_108 ?_
            refine sx_puti C p_Mo_77 (by decide) rfl d_Mo_place_109 ?_
            refine sx_aload_n C 0 d_Mo_place_112 rfl rfl ?_
            refine sx_iconst C d_Mo_place_113 ?_
            refine sx_putz C p_Mo_86 (by omega) (by decide) rfl d_Mo_place_114 ?_
            refine sx_aload_n C 0 d_Mo_place_117 rfl rfl ?_
            refine sx_geti C f_Mo_77 (by decide) rfl d_Mo_place_118 ?_
            rw [show sx_up (sx_up (sx_up (sx_up (sx_up (sx_up M 56 (M 53 1).toNat x) 57 (M 53 1).toNat y) 58 (M 53 1).toNat c) 59 (M 53 1).toNat q) 53 1 (M 53 1 + 1)) 53 15 0 53 1 = M 53 1 + 1 from (sx_up_slot (by decide)).trans sx_up_at]
            refine sx_iconst C d_Mo_place_121 ?_
            refine sx_isub C d_Mo_place_122 ?_
            refine sx_ireturn C Rr rfl d_Mo_place_123 ?_
            exact ⟨rfl, by rw [if_pos (by omega)]; congr 2; omega, by rw [if_pos (by omega)]; rfl⟩
          · refine sx_iconst C d_Mo_place_58 ?_
            refine sx_ireturn C Rr rfl d_Mo_place_59 ?_
            exact ⟨rfl, by rw [if_neg (by omega)], by rw [if_neg (by omega)]⟩
