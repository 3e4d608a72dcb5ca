/-- the first n slots of cell k become those of f -/
def tfS (M : sx_M0) (k n : Nat) (f : Nat → Int) : sx_M0 := fun a b => if a = k ∧ b < n then f b else M a b
theorem tfS_0 (M : sx_M0) (k : Nat) (f : Nat → Int) : tfS M k 0 f = M := by
  funext a b
  simp [tfS]
theorem tfS_succ (M : sx_M0) (k n : Nat) (f : Nat → Int) {x : Int} (hx : x = f n) : sx_up (tfS M k n f) k n x = tfS M k (n + 1) f := by
  subst hx
  funext a b
  unfold sx_up tfS
  by_cases h : a = k
  · by_cases h2 : b = n
    · simp [h, h2]
    · have h3 : (b < n + 1) ↔ (b < n) := by omega
      simp [h, h2, h3]
  · simp [h]
theorem tfS_ne {M : sx_M0} {k n : Nat} {f : Nat → Int} {a : Nat} (h : a ≠ k) : tfS M k n f a = M a := by
  funext b
  simp [tfS, h]
theorem tfS_lt {M : sx_M0} {k n : Nat} {f : Nat → Int} {b : Nat} (h : b < n) : tfS M k n f k b = f b := by
  simp [tfS, h]
theorem tfS_ge {M : sx_M0} {k n : Nat} {f : Nat → Int} {b : Nat} (h : ¬ b < n) : tfS M k n f k b = M k b := by
  simp [tfS, h]
def nyS (M : sx_M0) (y : Int) (d : Nat) : Int := M 2 d + y * (M 2 d / 10)
theorem ny_bd {x y : Int} (h0 : 0 ≤ x) (h1 : x ≤ 100) (h2 : 0 ≤ y) (h3 : y ≤ 5) : 0 ≤ x + y * (x / 10) ∧ x + y * (x / 10) ≤ 150 ∧ 0 ≤ y * (x / 10) ∧ y * (x / 10) ≤ 50 := by
  have q1 : 0 ≤ x / 10 := by omega
  have q2 : x / 10 ≤ 10 := by omega
  have q3 : 0 ≤ y * (x / 10) := Int.mul_nonneg h2 q1
  have q4 : y * (x / 10) ≤ 5 * 10 := Int.mul_le_mul h3 q2 q1 (by omega)
  omega
set_option maxRecDepth 100000 in
set_option maxHeartbeats 4000000 in
theorem lp_Se_loadNeedsOfYear  (M : sx_M0) (hT : tw M) (h17 : 0 ≤ M 17 0 ∧ M 17 0 ≤ 6) (y : Nat) (hy : y ≤ 5) {E : sx_E} (C : sx_C SC g_tbl "SiteChoice$Search" c_Se_loadNeedsOfYear E) (Rr : sx_Ret SC none (rmk 0 0) (fun r G' M' => G' = GL ∧ M' = tfS M 18 (M 17 0).toNat (nyS M y) ∧ r = none) E) (hnL : sx_nL E = 4) : ∀ (nF : Nat) (d : Nat), (M 17 0).toNat - d < nF → d ≤ (M 17 0).toNat → sx_X SC E (0, 0) GL (tfS M 18 d (nyS M y)) 2 [(3, sx_I (((d : Nat) : Int))), (0, sx_A (17)), (1, sx_A (1)), (2, sx_I (((y : Nat) : Int)))] [] := by
  intro nF
  induction nF with
  | zero => intro d h; omega
  | succ nF ih =>
    intro d hn h1
    refine sx_iload_n C 0 d_Se_loadNeedsOfYear_2 rfl rfl ?_
    refine sx_aload_n C 1 d_Se_loadNeedsOfYear_3 rfl rfl ?_
    refine sx_geti C f_Se_9 (by decide) rfl d_Se_loadNeedsOfYear_4 ?_
    rw [tfS_ne (by decide)]
    refine sx_icmp_ge C 42 ⟨by omega, by omega⟩ ⟨by omega, by omega⟩ d_Se_loadNeedsOfYear_7 (by decide) (fun c7 => ?_) (fun c7 => ?_)
    · refine sx_return C Rr rfl d_Se_loadNeedsOfYear_42 ?_
      exact ⟨rfl, by rw [show d = (M 17 0).toNat by omega], rfl⟩
    · refine sx_aload_n C 1 d_Se_loadNeedsOfYear_10 rfl rfl ?_
      refine sx_getr C f_Se_18 18 (by decide) rfl rfl d_Se_loadNeedsOfYear_11 ?_
      refine sx_iload_n C 0 d_Se_loadNeedsOfYear_14 rfl rfl ?_
      refine sx_aload_n C 2 d_Se_loadNeedsOfYear_15 rfl rfl ?_
      have hN := hT.2.2.2.1 d (by omega)
      refine sx_getr C f_Se_81 2 (by decide) rfl rfl d_Se_loadNeedsOfYear_16 ?_
      refine sx_iload_n C 0 d_Se_loadNeedsOfYear_19 rfl rfl ?_
      refine sx_laload C d (by decide) rfl rfl rfl (by omega) (by decide) d_Se_loadNeedsOfYear_20 ?_
      rw [tfS_ne (by decide)]
      refine sx_iload_n C 3 d_Se_loadNeedsOfYear_21 rfl rfl ?_
      refine sx_i2l C ⟨by omega, by omega⟩ d_Se_loadNeedsOfYear_22 ?_
      refine sx_aload_n C 2 d_Se_loadNeedsOfYear_23 rfl rfl ?_
      refine sx_getr C f_Se_81 2 (by decide) rfl rfl d_Se_loadNeedsOfYear_24 ?_
      refine sx_iload_n C 0 d_Se_loadNeedsOfYear_27 rfl rfl ?_
      refine sx_laload C d (by decide) rfl rfl rfl (by omega) (by decide) d_Se_loadNeedsOfYear_28 ?_
      rw [tfS_ne (by decide)]
      refine sx_ldc2 (v := (10)) C (10) (tb_ 310 (by decide +kernel) rfl) (by decide) d_Se_loadNeedsOfYear_29 ?_
      refine sx_ldiv C (by omega) ⟨by omega, by omega⟩ (by omega) ⟨by omega, by omega⟩ d_Se_loadNeedsOfYear_32 ?_
      refine sx_lmul C d_Se_loadNeedsOfYear_33 ?_
      refine sx_ladd C d_Se_loadNeedsOfYear_34 ?_
      refine sx_lastore C d (by decide) rfl rfl rfl (by omega) (by decide) d_Se_loadNeedsOfYear_35 ?_
      refine sx_iinc (lv' := [(3, sx_I (((d + 1 : Nat) : Int))), (0, sx_A (17)), (1, sx_A (1)), (2, sx_I (((y : Nat) : Int)))]) C 0 d_Se_loadNeedsOfYear_36 rfl (by rw [hnL]; decide) rfl ?_
      refine sx_goto C 2 d_Se_loadNeedsOfYear_39 (by decide) ?_
      refine sx_sub [0, 1, 2, 3] rfl ?_
      rw [tfS_succ M 18 d (nyS M y) (x := M 2 d + ((y : Nat) : Int) * (M 2 d / 10)) rfl]
      exact ih (d + 1) (by omega) (by omega)
set_option maxRecDepth 100000 in
set_option maxHeartbeats 4000000 in
theorem ct_Se_loadNeedsOfYear (l : Launch) (D : va_G) (tc : Nat → ClassId) (M : sx_M0) (hT : tw M) (h17 : 0 ≤ M 17 0 ∧ M 17 0 ≤ 6) (y : Nat) (hy : y ≤ 5) : sx_Met SC l D tc y_Se_loadNeedsOfYear w_Se_loadNeedsOfYear (rmk 0 0) [sx_A (17), sx_A (1), sx_I (((y : Nat) : Int))] GL M (fun r G' M' => G' = GL ∧ M' = tfS M 18 (M 17 0).toNat (nyS M y) ∧ r = none) := by
  refine sx_enter (by decide) rfl (Nat.le_of_ble_eq_true rfl) (Ts := g_tbl) (fun _ h => List.mem_cons_of_mem _ h) (fun E C Rr hnm hnL => ?_)
  refine sx_iconst C d_Se_loadNeedsOfYear_0 ?_
  refine sx_istore_n (lv' := [(3, sx_I (0)), (0, sx_A (17)), (1, sx_A (1)), (2, sx_I (((y : Nat) : Int)))]) C d_Se_loadNeedsOfYear_1 rfl (by rw [hnL]; decide) rfl ?_
  refine sx_sub [0, 1, 2, 3] rfl ?_
  have h0 := lp_Se_loadNeedsOfYear M hT h17 y hy C Rr hnL _ 0 (Nat.lt_succ_self _) (Nat.zero_le _)
  rw [tfS_0] at h0
  exact h0
theorem in_bit : ∀ c, c < 64 → ∀ n, n < 7 → ∀ d, d < n → (sx_and (sx_shr ((c : Nat) : Int) (((n : Nat) : Int) - 1 - ((d : Nat) : Int))) 1 = 1 ∧ c.testBit (n - 1 - d) = true) ∨ (sx_and (sx_shr ((c : Nat) : Int) (((n : Nat) : Int) - 1 - ((d : Nat) : Int))) 1 = 0 ∧ c.testBit (n - 1 - d) = false) := by decide +kernel
set_option maxRecDepth 100000 in
set_option maxHeartbeats 4000000 in
theorem ct_Un_isIn (l : Launch) (D : va_G) (tc : Nat → ClassId) (M : sx_M0) (c n d : Nat) (hc : c < 64) (hn : n < 7) (hd : d < n) : sx_Met SC l D tc y_Un_isIn w_Un_isIn (rmk 0 0) [sx_I (((c : Nat) : Int)), sx_I (((d : Nat) : Int)), sx_I (((n : Nat) : Int))] GL M (fun r G' M' => G' = GL ∧ M' = M ∧ bz (c.testBit (n - 1 - d) = true) r) := by
  refine sx_enter (by decide) rfl (Nat.le_of_ble_eq_true rfl) (Ts := g_tbl) (fun _ h => List.mem_cons_of_mem _ h) (fun E C Rr hnm hnL => ?_)
  refine sx_iload_n C 0 d_Un_isIn_0 rfl rfl ?_
  refine sx_iload_n C 2 d_Un_isIn_1 rfl rfl ?_
  refine sx_iconst C d_Un_isIn_2 ?_
  refine sx_isub C d_Un_isIn_3 ?_
  refine sx_iload_n C 1 d_Un_isIn_4 rfl rfl ?_
  refine sx_isub C d_Un_isIn_5 ?_
  refine sx_ishr C d_Un_isIn_6 ?_
  refine sx_iconst C d_Un_isIn_7 ?_
  refine sx_iand C d_Un_isIn_8 ?_
  have hv := in_bit c hc n hn d hd
  generalize (sx_and (sx_shr ((c : Nat) : Int) (((n : Nat) : Int) - 1) - ((d : Nat) : Int)) 1) = v at hv ⊢
  refine sx_iconst C d_Un_isIn_9 ?_
  refine sx_icmp_ne C 17 ⟨by omega, by omega⟩ ⟨by omega, by omega⟩ d_Un_isIn_10 (by decide) (fun c10 => ?_) (fun c10 => ?_)
  · refine sx_iconst C d_Un_isIn_17 ?_
    refine sx_zreturn C Rr (by omega) rfl d_Un_isIn_18 ?_
    exact ⟨rfl, rfl, 0, rfl, Or.inr ⟨rfl, by rcases hv with ⟨q1, q2⟩ | ⟨q1, q2⟩; omega; rw [q2]; decide⟩⟩
  · refine sx_iconst C d_Un_isIn_13 ?_
    refine sx_goto C 18 d_Un_isIn_14 (by decide) ?_
    refine sx_zreturn C Rr (by omega) rfl d_Un_isIn_18 ?_
    exact ⟨rfl, rfl, 1, rfl, Or.inl ⟨rfl, by rcases hv with ⟨q1, q2⟩ | ⟨q1, q2⟩; exact q2; omega⟩⟩
def nsS (M : sx_M0) (c n : Nat) (d : Nat) : Int := if c.testBit (n - 1 - d) = true then M 2 d else 0
set_option maxRecDepth 100000 in
set_option maxHeartbeats 4000000 in
theorem lp_Se_loadNeedsOfSet  (M : sx_M0) (hT : tw M) (h17 : 0 ≤ M 17 0 ∧ M 17 0 ≤ 6) (c : Nat) (hc : c < 64) {E : sx_E} (C : sx_C SC g_tbl "SiteChoice$Search" c_Se_loadNeedsOfSet E) (Rr : sx_Ret SC none (rmk 1 40) (fun r G' M' => G' = GL ∧ M' = tfS M 18 (M 17 0).toNat (nsS M c (M 17 0).toNat) ∧ r = none) E) (hnL : sx_nL E = 4) : ∀ (nF : Nat) (d : Nat), (M 17 0).toNat - d < nF → d ≤ (M 17 0).toNat → sx_X SC E (0, 0) GL (tfS M 18 d (nsS M c (M 17 0).toNat)) 2 [(3, sx_I (((d : Nat) : Int))), (0, sx_A (17)), (1, sx_A (1)), (2, sx_I (((c : Nat) : Int)))] [] := by
  intro nF
  induction nF with
  | zero => intro d h; omega
  | succ nF ih =>
    intro d hn h1
    refine sx_iload_n C 0 d_Se_loadNeedsOfSet_2 rfl rfl ?_
    refine sx_aload_n C 1 d_Se_loadNeedsOfSet_3 rfl rfl ?_
    refine sx_geti C f_Se_9 (by decide) rfl d_Se_loadNeedsOfSet_4 ?_
    rw [tfS_ne (by decide)]
    refine sx_icmp_ge C 44 ⟨by omega, by omega⟩ ⟨by omega, by omega⟩ d_Se_loadNeedsOfSet_7 (by decide) (fun c7 => ?_) (fun c7 => ?_)
    · refine sx_return C Rr rfl d_Se_loadNeedsOfSet_44 ?_
      exact ⟨rfl, by rw [show d = (M 17 0).toNat by omega], rfl⟩
    · refine sx_aload_n C 1 d_Se_loadNeedsOfSet_10 rfl rfl ?_
      refine sx_getr C f_Se_18 18 (by decide) rfl rfl d_Se_loadNeedsOfSet_11 ?_
      refine sx_iload_n C 0 d_Se_loadNeedsOfSet_14 rfl rfl ?_
      refine sx_iload_n C 3 d_Se_loadNeedsOfSet_15 rfl rfl ?_
      refine sx_iload_n C 0 d_Se_loadNeedsOfSet_16 rfl rfl ?_
      refine sx_aload_n C 1 d_Se_loadNeedsOfSet_17 rfl rfl ?_
      refine sx_geti C f_Se_9 (by decide) rfl d_Se_loadNeedsOfSet_18 ?_
      rw [tfS_ne (by decide), show M 17 0 = (((M 17 0).toNat : Nat) : Int) by omega]
      rw [show (((((M 17 0).toNat : Nat) : Int)).toNat) = (M 17 0).toNat by omega]
      refine sx_callS (n := 71) (As := [sx_I (((c : Nat) : Int)), sx_I (((d : Nat) : Int)), sx_I ((((M 17 0).toNat : Nat) : Int))]) (st := [sx_I (((d : Nat) : Int)), sx_A (18)]) C (ct_Un_isIn _ _ _ _ c (M 17 0).toNat d hc (by omega) (by omega)) (cv_Se_84 E C _ (by rw [Rr.2.2]; decide)) (Nat.le_of_ble_eq_true rfl) d_Se_loadNeedsOfSet_21 (by rw [Rr.2.2]; decide) (by decide) rfl rfl rfl (fun r21 G21 M21 hpo _ => ?_)
      obtain ⟨e1, e2, b21, rfl, hb21⟩ := hpo
      rw [e1, e2]
      show sx_X SC E (0, 0) GL (tfS M 18 d (nsS M c (M 17 0).toNat)) 24 [(3, sx_I (((d : Nat) : Int))), (0, sx_A (17)), (1, sx_A (1)), (2, sx_I (((c : Nat) : Int)))] [sx_I (b21), sx_I (((d : Nat) : Int)), sx_A (18)]
      refine sx_if_eq C 36 ⟨by omega, by omega⟩ d_Se_loadNeedsOfSet_24 (by decide) (fun c24 => ?_) (fun c24 => ?_)
      · refine sx_lconst C 0 rfl d_Se_loadNeedsOfSet_36 ?_
        refine sx_lastore C d (by decide) rfl rfl rfl (by omega) (by decide) d_Se_loadNeedsOfSet_37 ?_
        refine sx_iinc (lv' := [(3, sx_I (((d + 1 : Nat) : Int))), (0, sx_A (17)), (1, sx_A (1)), (2, sx_I (((c : Nat) : Int)))]) C 0 d_Se_loadNeedsOfSet_38 rfl (by rw [hnL]; decide) rfl ?_
        refine sx_goto C 2 d_Se_loadNeedsOfSet_41 (by decide) ?_
        refine sx_sub [0, 1, 2, 3] rfl ?_
        rw [tfS_succ M 18 d (nsS M c (M 17 0).toNat) (by unfold nsS; rcases hb21 with ⟨q1, q2⟩ | ⟨q1, q2⟩; (first | omega | rw [if_pos q2]); (first | omega | rw [if_neg q2]))]
        exact ih (d + 1) (by omega) (by omega)
      · refine sx_aload_n C 2 d_Se_loadNeedsOfSet_27 rfl rfl ?_
        refine sx_getr C f_Se_81 2 (by decide) rfl rfl d_Se_loadNeedsOfSet_28 ?_
        refine sx_iload_n C 0 d_Se_loadNeedsOfSet_31 rfl rfl ?_
        refine sx_laload C d (by decide) rfl rfl rfl (by omega) (by decide) d_Se_loadNeedsOfSet_32 ?_
        rw [tfS_ne (by decide)]
        refine sx_goto C 37 d_Se_loadNeedsOfSet_33 (by decide) ?_
        refine sx_lastore C d (by decide) rfl rfl rfl (by omega) (by decide) d_Se_loadNeedsOfSet_37 ?_
        refine sx_iinc (lv' := [(3, sx_I (((d + 1 : Nat) : Int))), (0, sx_A (17)), (1, sx_A (1)), (2, sx_I (((c : Nat) : Int)))]) C 0 d_Se_loadNeedsOfSet_38 rfl (by rw [hnL]; decide) rfl ?_
        refine sx_goto C 2 d_Se_loadNeedsOfSet_41 (by decide) ?_
        refine sx_sub [0, 1, 2, 3] rfl ?_
        rw [tfS_succ M 18 d (nsS M c (M 17 0).toNat) (by unfold nsS; rcases hb21 with ⟨q1, q2⟩ | ⟨q1, q2⟩; (first | omega | rw [if_pos q2]); (first | omega | rw [if_neg q2]))]
        exact ih (d + 1) (by omega) (by omega)
set_option maxRecDepth 100000 in
set_option maxHeartbeats 4000000 in
theorem ct_Se_loadNeedsOfSet (l : Launch) (D : va_G) (tc : Nat → ClassId) (M : sx_M0) (hT : tw M) (h17 : 0 ≤ M 17 0 ∧ M 17 0 ≤ 6) (c : Nat) (hc : c < 64) : sx_Met SC l D tc y_Se_loadNeedsOfSet w_Se_loadNeedsOfSet (rmk 1 40) [sx_A (17), sx_A (1), sx_I (((c : Nat) : Int))] GL M (fun r G' M' => G' = GL ∧ M' = tfS M 18 (M 17 0).toNat (nsS M c (M 17 0).toNat) ∧ r = none) := by
  refine sx_enter (by decide) rfl (Nat.le_of_ble_eq_true rfl) (Ts := g_tbl) (fun _ h => List.mem_cons_of_mem _ h) (fun E C Rr hnm hnL => ?_)
  refine sx_iconst C d_Se_loadNeedsOfSet_0 ?_
  refine sx_istore_n (lv' := [(3, sx_I (0)), (0, sx_A (17)), (1, sx_A (1)), (2, sx_I (((c : Nat) : Int)))]) C d_Se_loadNeedsOfSet_1 rfl (by rw [hnL]; decide) rfl ?_
  refine sx_sub [0, 1, 2, 3] rfl ?_
  have h0 := lp_Se_loadNeedsOfSet M hT h17 c hc C Rr hnL _ 0 (Nat.lt_succ_self _) (Nat.zero_le _)
  rw [tfS_0] at h0
  exact h0
