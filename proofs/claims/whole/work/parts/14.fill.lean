/-- the first n slots of cell k become v -/
def flS (M : sx_M0) (k n : Nat) (v : Int) : sx_M0 := fun a b => if a = k ∧ b < n then v else M a b
theorem flS_0 (M : sx_M0) (k : Nat) (v : Int) : flS M k 0 v = M := by
  funext a b
  simp [flS]
theorem flS_succ (M : sx_M0) (k n : Nat) (v : Int) : sx_up (flS M k n v) k n v = flS M k (n + 1) v := by
  funext a b
  unfold sx_up flS
  by_cases h : a = k
  · by_cases h2 : b = n
    · simp [h, h2]
    · have h3 : (b < n + 1) ↔ (b < n) := by omega
      simp [h, h2, h3]
  · simp [h]
set_option maxRecDepth 100000 in
set_option maxHeartbeats 4000000 in
theorem lp_Ar_fill_longs  (M : sx_M0) (k n : Nat) (v : Int) (hk : k < GL.1) (hs : GL.2.1 k = (3, n)) (hn9 : n < 2147483648) {E : sx_E} (C : sx_C SC g_tbl "java/util/Arrays" c_Ar_fill_longs E) (Rr : sx_Ret SC none (rmk 0 0) (fun r G' M' => G' = GL ∧ M' = flS M k n v ∧ r = none) E) (hnL : sx_nL E = 5) : ∀ (nF : Nat) (i : Nat), n - i < nF → i ≤ n → sx_X SC E (0, 0) GL (flS M k i v) 6 [(3, sx_I (((i : Nat) : Int))), (4, sx_I (((n : Nat) : Int))), (0, sx_A (k)), (1, sx_J (v))] [] := by
  intro nF
  induction nF with
  | zero => intro i h; omega
  | succ nF ih =>
    intro i hn h1
    refine sx_iload_n C 0 d_Ar_fill_longs_6 rfl rfl ?_
    refine sx_iload C 1 d_Ar_fill_longs_7 rfl ?_
    refine sx_icmp_ge C 22 ⟨by omega, by omega⟩ ⟨by omega, by omega⟩ d_Ar_fill_longs_9 (by decide) (fun c9 => ?_) (fun c9 => ?_)
    · refine sx_return C Rr rfl d_Ar_fill_longs_22 ?_
      exact ⟨rfl, by rw [show i = n by omega], rfl⟩
    · refine sx_aload_n C 2 d_Ar_fill_longs_12 rfl rfl ?_
      refine sx_iload_n C 0 d_Ar_fill_longs_13 rfl rfl ?_
      refine sx_lload_n C 3 d_Ar_fill_longs_14 rfl rfl ?_
      refine sx_lastore C i hk hs rfl rfl (by omega) hn9 d_Ar_fill_longs_15 ?_
      refine sx_iinc (lv' := [(3, sx_I (((i + 1 : Nat) : Int))), (4, sx_I (((n : Nat) : Int))), (0, sx_A (k)), (1, sx_J (v))]) C 0 d_Ar_fill_longs_16 rfl (by rw [hnL]; decide) rfl ?_
      refine sx_goto C 6 d_Ar_fill_longs_19 (by decide) ?_
      refine sx_sub [0, 1, 2, 3] rfl ?_
      rw [flS_succ]
      exact ih (i + 1) (by omega) (by omega)
set_option maxRecDepth 100000 in
set_option maxHeartbeats 4000000 in
theorem ct_Ar_fill_longs (l : Launch) (D : va_G) (tc : Nat → ClassId) (M : sx_M0) (k n : Nat) (v : Int) (hk : k < GL.1) (hs : GL.2.1 k = (3, n)) (hn9 : n < 2147483648) : sx_Met SC l D tc y_Ar_fill_longs w_Ar_fill_longs (rmk 0 0) [sx_A (k), sx_J (v)] GL M (fun r G' M' => G' = GL ∧ M' = flS M k n v ∧ r = none) := by
  refine sx_enter (by decide) rfl (Nat.le_of_ble_eq_true rfl) (Ts := g_tbl) (fun _ h => List.mem_cons_of_mem _ h) (fun E C Rr hnm hnL => ?_)
  refine sx_iconst C d_Ar_fill_longs_0 ?_
  refine sx_istore_n (lv' := [(3, sx_I (0)), (0, sx_A (k)), (1, sx_J (v))]) C d_Ar_fill_longs_1 rfl (by rw [hnL]; decide) rfl ?_
  refine sx_aload_n C 1 d_Ar_fill_longs_2 rfl rfl ?_
  refine sx_alen (C0 := C) hk hs rfl d_Ar_fill_longs_3 ?_
  refine sx_istore (lv' := [(4, sx_I (((n : Nat) : Int))), (3, sx_I (0)), (0, sx_A (k)), (1, sx_J (v))]) C d_Ar_fill_longs_4 (by rw [hnL]; decide) rfl ?_
  refine sx_sub [1, 0, 2, 3] rfl ?_
  have h0 := lp_Ar_fill_longs M k n v hk hs hn9 C Rr hnL _ 0 (Nat.lt_succ_self _) (Nat.zero_le _)
  rw [flS_0] at h0
  exact h0
set_option maxRecDepth 100000 in
set_option maxHeartbeats 4000000 in
theorem lp_Ar_fill_ints  (M : sx_M0) (k n : Nat) (v : Int) (hk : k < GL.1) (hs : GL.2.1 k = (1, n)) (hn9 : n < 2147483648) {E : sx_E} (C : sx_C SC g_tbl "java/util/Arrays" c_Ar_fill_ints E) (Rr : sx_Ret SC none (rmk 0 0) (fun r G' M' => G' = GL ∧ M' = flS M k n v ∧ r = none) E) (hnL : sx_nL E = 4) : ∀ (nF : Nat) (i : Nat), n - i < nF → i ≤ n → sx_X SC E (0, 0) GL (flS M k i v) 5 [(2, sx_I (((i : Nat) : Int))), (3, sx_I (((n : Nat) : Int))), (0, sx_A (k)), (1, sx_I (v))] [] := by
  intro nF
  induction nF with
  | zero => intro i h; omega
  | succ nF ih =>
    intro i hn h1
    refine sx_iload_n C 0 d_Ar_fill_ints_5 rfl rfl ?_
    refine sx_iload_n C 1 d_Ar_fill_ints_6 rfl rfl ?_
    refine sx_icmp_ge C 20 ⟨by omega, by omega⟩ ⟨by omega, by omega⟩ d_Ar_fill_ints_7 (by decide) (fun c7 => ?_) (fun c7 => ?_)
    · refine sx_return C Rr rfl d_Ar_fill_ints_20 ?_
      exact ⟨rfl, by rw [show i = n by omega], rfl⟩
    · refine sx_aload_n C 2 d_Ar_fill_ints_10 rfl rfl ?_
      refine sx_iload_n C 0 d_Ar_fill_ints_11 rfl rfl ?_
      refine sx_iload_n C 3 d_Ar_fill_ints_12 rfl rfl ?_
      refine sx_iastore C i hk hs rfl rfl (by omega) hn9 d_Ar_fill_ints_13 ?_
      refine sx_iinc (lv' := [(2, sx_I (((i + 1 : Nat) : Int))), (3, sx_I (((n : Nat) : Int))), (0, sx_A (k)), (1, sx_I (v))]) C 0 d_Ar_fill_ints_14 rfl (by rw [hnL]; decide) rfl ?_
      refine sx_goto C 5 d_Ar_fill_ints_17 (by decide) ?_
      refine sx_sub [0, 1, 2, 3] rfl ?_
      rw [flS_succ]
      exact ih (i + 1) (by omega) (by omega)
set_option maxRecDepth 100000 in
set_option maxHeartbeats 4000000 in
theorem ct_Ar_fill_ints (l : Launch) (D : va_G) (tc : Nat → ClassId) (M : sx_M0) (k n : Nat) (v : Int) (hk : k < GL.1) (hs : GL.2.1 k = (1, n)) (hn9 : n < 2147483648) : sx_Met SC l D tc y_Ar_fill_ints w_Ar_fill_ints (rmk 0 0) [sx_A (k), sx_I (v)] GL M (fun r G' M' => G' = GL ∧ M' = flS M k n v ∧ r = none) := by
  refine sx_enter (by decide) rfl (Nat.le_of_ble_eq_true rfl) (Ts := g_tbl) (fun _ h => List.mem_cons_of_mem _ h) (fun E C Rr hnm hnL => ?_)
  refine sx_iconst C d_Ar_fill_ints_0 ?_
  refine sx_istore_n (lv' := [(2, sx_I (0)), (0, sx_A (k)), (1, sx_I (v))]) C d_Ar_fill_ints_1 rfl (by rw [hnL]; decide) rfl ?_
  refine sx_aload_n C 1 d_Ar_fill_ints_2 rfl rfl ?_
  refine sx_alen (C0 := C) hk hs rfl d_Ar_fill_ints_3 ?_
  refine sx_istore_n (lv' := [(3, sx_I (((n : Nat) : Int))), (2, sx_I (0)), (0, sx_A (k)), (1, sx_I (v))]) C d_Ar_fill_ints_4 rfl (by rw [hnL]; decide) rfl ?_
  refine sx_sub [1, 0, 2, 3] rfl ?_
  have h0 := lp_Ar_fill_ints M k n v hk hs hn9 C Rr hnL _ 0 (Nat.lt_succ_self _) (Nat.zero_le _)
  rw [flS_0] at h0
  exact h0
