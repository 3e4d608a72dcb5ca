def df (s b : Nat) : Nat := s &&& (31 ^^^ b)
theorem df_eq : ∀ s, s < 32 → ∀ b, b < 32 → sx_and ((s : Nat) : Int) (sx_xor ((b : Nat) : Int) (-1)) = ((df s b : Nat) : Int) := by decide +kernel
theorem df_le (s b : Nat) : df s b ≤ s := Nat.and_le_left
theorem df_0 : ∀ s, s < 32 → df s 0 = s := by decide +kernel
/-- the cheapest next set among the first n, the least of such -/
def chP (f c : Nat → Int) (b n : Nat) (q le : Int) : Prop := (q = -1 ∧ ∀ s, s < n → f s = -1) ∨ (∃ s : Nat, s < n ∧ q = (s : Int) ∧ f s ≠ -1 ∧ le = c (df s b) + f s ∧ ∀ t, t < n → f t ≠ -1 → le ≤ c (df t b) + f t ∧ (t < s → le < c (df t b) + f t))
theorem ch_skip {f c : Nat → Int} {b n : Nat} {q le : Int} (h0 : f n = -1) (h : chP f c b n q le) : chP f c b (n + 1) q le := by
  rcases h with ⟨h1, h2⟩ | ⟨s, h1, h2, h3, h4, h5⟩
  · refine Or.inl ⟨h1, fun s hs => ?_⟩
    by_cases e : s = n
    · rw [e]; exact h0
    · exact h2 s (by omega)
  · refine Or.inr ⟨s, by omega, h2, h3, h4, fun t ht hf => ?_⟩
    by_cases e : t = n
    · rw [e] at hf; exact absurd h0 hf
    · exact h5 t (by omega) hf
theorem ch_take {f c : Nat → Int} {b n : Nat} {q le : Int} (h0 : f n ≠ -1) (hx : q = -1 ∨ c (df n b) + f n < le) (h : chP f c b n q le) : chP f c b (n + 1) (n : Int) (c (df n b) + f n) := by
  refine Or.inr ⟨n, Nat.lt_succ_self n, rfl, h0, rfl, fun t ht hf => ?_⟩
  by_cases e : t = n
  · rw [e]; exact ⟨Int.le_refl _, fun y => absurd y (Nat.lt_irrefl n)⟩
  · rcases h with ⟨h1, h2⟩ | ⟨s, h1, h2, h3, h4, h5⟩
    · exact absurd (h2 t (by omega)) hf
    · have q1 := h5 t (by omega) hf
      rcases hx with hx | hx
      · omega
      · exact ⟨by omega, fun _ => by omega⟩
theorem ch_keep {f c : Nat → Int} {b n : Nat} {q le : Int} (h0 : q ≠ -1) (hx : ¬ c (df n b) + f n < le) (h : chP f c b n q le) : chP f c b (n + 1) q le := by
  rcases h with ⟨h1, h2⟩ | ⟨s, h1, h2, h3, h4, h5⟩
  · exact absurd h1 h0
  · refine Or.inr ⟨s, by omega, h2, h3, h4, fun t ht hf => ?_⟩
    by_cases e : t = n
    · rw [e]; exact ⟨by omega, fun y => by omega⟩
    · exact h5 t (by omega) hf
theorem ch_bd {f c : Nat → Int} {b n : Nat} {q le : Int} (hf : ∀ s, s < n → -1 ≤ f s ∧ f s ≤ 10000000000) (hc : ∀ s, s < n → 0 ≤ c s ∧ c s ≤ 10000000000) (h : chP f c b n q le) : -1 ≤ q ∧ q < (n : Int) ∧ (q = -1 ∨ (0 ≤ le ∧ le ≤ 20000000000)) := by
  rcases h with ⟨h1, h2⟩ | ⟨s, h1, h2, h3, h4, h5⟩
  · exact ⟨by omega, by omega, Or.inl h1⟩
  · have q1 := hf s h1
    have q2 := hc (df s b) (by have := df_le s b; omega)
    exact ⟨by omega, by omega, Or.inr ⟨by omega, by omega⟩⟩
set_option maxRecDepth 100000 in
set_option maxHeartbeats 4000000 in
theorem lp_Ca_cheapestNext  (M : sx_M0) (y b n : Nat) (hy : y < 6) (hb : b < 32) (hn9 : n ≤ 32) (hf : ∀ s, s < n → -1 ≤ M (46 + 1 + y) s ∧ M (46 + 1 + y) s ≤ 10000000000) (hc : ∀ s, s < n → 0 ≤ M 28 s ∧ M 28 s ≤ 10000000000) {E : sx_E} (C : sx_C SC g_tbl "SiteChoice$Calendar" c_Ca_cheapestNext E) (Rr : sx_Ret SC (some .int) (rmk 0 0) (fun r G' M' => G' = GL ∧ M' = M ∧ ∃ q le : Int, r = some (sx_I q) ∧ chP (M (46 + 1 + y)) (M 28) b n q le) E) (hnL : sx_nL E = 11) : ∀ (nF : Nat) (s : Nat) (le : Int) (q : Int), n - s < nF → chP (M (46 + 1 + y)) (M 28) b s q le → s ≤ n → (q = -1 ∨ (0 ≤ le ∧ le ≤ 20000000000)) → sx_X SC E (0, 0) GL M 9 [(8, sx_I (((s : Nat) : Int))), (6, sx_J (le)), (5, sx_I (q)), (0, sx_A (37)), (1, sx_I (((y : Nat) : Int))), (2, sx_I (((b : Nat) : Int))), (3, sx_I (((n : Nat) : Int))), (4, sx_A (17))] [] := by
  intro nF
  induction nF with
  | zero => intro s le q h; omega
  | succ nF ih =>
    intro s le q hn h1 h2 h3
    have q9 := ch_bd (fun t ht => hf t (by omega)) (fun t ht => hc t (by omega)) h1
    refine sx_iload C 0 d_Ca_cheapestNext_9 rfl ?_
    refine sx_iload_n C 6 d_Ca_cheapestNext_11 rfl rfl ?_
    refine sx_icmp_ge C 83 ⟨by omega, by omega⟩ ⟨by omega, by omega⟩ d_Ca_cheapestNext_12 (by decide) (fun c12 => ?_) (fun c12 => ?_)
    · refine sx_iload C 2 d_Ca_cheapestNext_83 rfl ?_
      refine sx_ireturn C Rr rfl d_Ca_cheapestNext_85 ?_
      have e : s = n := by omega
      rw [e] at h1
      exact ⟨rfl, rfl, q, le, rfl, h1⟩
    · have q1 := hf s (by omega)
      have q2 := hc (df s b) (by have := df_le s b; omega)
      have q4 := df_le s b
      have q3 := ch_bd (fun t ht => hf t (by omega)) (fun t ht => hc t (by omega)) h1
      refine sx_aload_n C 3 d_Ca_cheapestNext_15 rfl rfl ?_
      refine sx_getr C f_Ca_24 46 (by decide) rfl rfl d_Ca_cheapestNext_16 ?_
      refine sx_iload_n C 4 d_Ca_cheapestNext_19 rfl rfl ?_
      refine sx_aaload C y (46 + 1 + y) (by decide) rfl rfl rfl (by omega) (by decide) (if_pos (by omega)) d_Ca_cheapestNext_20 ?_
      refine sx_iload C 0 d_Ca_cheapestNext_21 rfl ?_
      refine sx_laload C s (by show (46 + 1 + y) < 71; omega) (gl_46 _ (by omega)) rfl rfl (by omega) (by decide) d_Ca_cheapestNext_23 ?_
      refine sx_ldc2 (v := (-1)) C (-1) (tb_ 493 (by decide +kernel) rfl) (by decide) d_Ca_cheapestNext_24 ?_
      refine sx_lcmp_eq C 77 ⟨by omega, by omega⟩ ⟨by omega, by omega⟩ d_Ca_cheapestNext_27 d_Ca_cheapestNext_28 (by decide) (fun c28 => ?_) (fun c28 => ?_)
      · refine sx_iinc (lv' := [(8, sx_I (((s + 1 : Nat) : Int))), (6, sx_J (le)), (5, sx_I (q)), (0, sx_A (37)), (1, sx_I (((y : Nat) : Int))), (2, sx_I (((b : Nat) : Int))), (3, sx_I (((n : Nat) : Int))), (4, sx_A (17))]) C 0 d_Ca_cheapestNext_77 rfl (by rw [hnL]; decide) rfl ?_
        refine sx_goto C 9 d_Ca_cheapestNext_80 (by decide) ?_
        refine sx_sub [0, 1, 2, 3, 4, 5, 6, 7] rfl ?_
        exact ih (s + 1) le q (by omega) (ch_skip (by omega) h1) (by omega) h3
      · have k0 : M (46 + 1 + y) s ≠ -1 := c28
        refine sx_aload C 7 d_Ca_cheapestNext_31 rfl ?_
        refine sx_getr C f_Ca_55 28 (by decide) rfl rfl d_Ca_cheapestNext_33 ?_
        refine sx_iload C 0 d_Ca_cheapestNext_36 rfl ?_
        refine sx_iload_n C 5 d_Ca_cheapestNext_38 rfl rfl ?_
        refine sx_iconst C d_Ca_cheapestNext_39 ?_
        refine sx_ixor C d_Ca_cheapestNext_40 ?_
        refine sx_iand C d_Ca_cheapestNext_41 ?_
        rw [df_eq s (by omega) b (by omega)]
        refine sx_laload C (df s b) (by decide) rfl rfl rfl (by omega) (by decide) d_Ca_cheapestNext_42 ?_
        refine sx_aload_n C 3 d_Ca_cheapestNext_43 rfl rfl ?_
        refine sx_getr C f_Ca_24 46 (by decide) rfl rfl d_Ca_cheapestNext_44 ?_
        refine sx_iload_n C 4 d_Ca_cheapestNext_47 rfl rfl ?_
        refine sx_aaload C y (46 + 1 + y) (by decide) rfl rfl rfl (by omega) (by decide) (if_pos (by omega)) d_Ca_cheapestNext_48 ?_
        refine sx_iload C 0 d_Ca_cheapestNext_49 rfl ?_
        refine sx_laload C s (by show (46 + 1 + y) < 71; omega) (gl_46 _ (by omega)) rfl rfl (by omega) (by decide) d_Ca_cheapestNext_51 ?_
        refine sx_ladd C d_Ca_cheapestNext_52 ?_
        refine sx_lstore (lv' := [(9, sx_J ((M 28 (df s b)) + (M (46 + 1 + y) s))), (8, sx_I (((s : Nat) : Int))), (6, sx_J (le)), (5, sx_I (q)), (0, sx_A (37)), (1, sx_I (((y : Nat) : Int))), (2, sx_I (((b : Nat) : Int))), (3, sx_I (((n : Nat) : Int))), (4, sx_A (17))]) C d_Ca_cheapestNext_53 (by rw [hnL]; decide) rfl ?_
        refine sx_iload C 3 d_Ca_cheapestNext_55 rfl ?_
        refine sx_iconst C d_Ca_cheapestNext_57 ?_
        refine sx_icmp_eq C 69 ⟨by omega, by omega⟩ ⟨by omega, by omega⟩ d_Ca_cheapestNext_58 (by decide) (fun c58 => ?_) (fun c58 => ?_)
        · refine sx_iload C 1 d_Ca_cheapestNext_69 rfl ?_
          refine sx_istore (lv' := [(5, sx_I (((s : Nat) : Int))), (9, sx_J ((M 28 (df s b)) + (M (46 + 1 + y) s))), (8, sx_I (((s : Nat) : Int))), (6, sx_J (le)), (0, sx_A (37)), (1, sx_I (((y : Nat) : Int))), (2, sx_I (((b : Nat) : Int))), (3, sx_I (((n : Nat) : Int))), (4, sx_A (17))]) C d_Ca_cheapestNext_71 (by rw [hnL]; decide) rfl ?_
          refine sx_lload C 1 d_Ca_cheapestNext_73 rfl ?_
          refine sx_lstore (lv' := [(6, sx_J ((M 28 (df s b)) + (M (46 + 1 + y) s))), (5, sx_I (((s : Nat) : Int))), (9, sx_J ((M 28 (df s b)) + (M (46 + 1 + y) s))), (8, sx_I (((s : Nat) : Int))), (0, sx_A (37)), (1, sx_I (((y : Nat) : Int))), (2, sx_I (((b : Nat) : Int))), (3, sx_I (((n : Nat) : Int))), (4, sx_A (17))]) C d_Ca_cheapestNext_75 (by rw [hnL]; decide) rfl ?_
          refine sx_iinc (lv' := [(8, sx_I (((s + 1 : Nat) : Int))), (6, sx_J ((M 28 (df s b)) + (M (46 + 1 + y) s))), (5, sx_I (((s : Nat) : Int))), (9, sx_J ((M 28 (df s b)) + (M (46 + 1 + y) s))), (0, sx_A (37)), (1, sx_I (((y : Nat) : Int))), (2, sx_I (((b : Nat) : Int))), (3, sx_I (((n : Nat) : Int))), (4, sx_A (17))]) C 3 d_Ca_cheapestNext_77 rfl (by rw [hnL]; decide) rfl ?_
          refine sx_goto C 9 d_Ca_cheapestNext_80 (by decide) ?_
          refine sx_sub [0, 1, 2, 4, 5, 6, 7, 8] rfl ?_
          exact ih (s + 1) _ _ (by omega) (ch_take k0 (by omega) h1) (by omega) (Or.inr ⟨by omega, by omega⟩)
        · refine sx_lload C 0 d_Ca_cheapestNext_61 rfl ?_
          refine sx_lload C 2 d_Ca_cheapestNext_63 rfl ?_
          refine sx_lcmp_ge C 77 ⟨by omega, by omega⟩ ⟨by omega, by omega⟩ d_Ca_cheapestNext_65 d_Ca_cheapestNext_66 (by decide) (fun c66 => ?_) (fun c66 => ?_)
          · refine sx_iinc (lv' := [(8, sx_I (((s + 1 : Nat) : Int))), (9, sx_J ((M 28 (df s b)) + (M (46 + 1 + y) s))), (6, sx_J (le)), (5, sx_I (q)), (0, sx_A (37)), (1, sx_I (((y : Nat) : Int))), (2, sx_I (((b : Nat) : Int))), (3, sx_I (((n : Nat) : Int))), (4, sx_A (17))]) C 1 d_Ca_cheapestNext_77 rfl (by rw [hnL]; decide) rfl ?_
            refine sx_goto C 9 d_Ca_cheapestNext_80 (by decide) ?_
            refine sx_sub [0, 2, 3, 4, 5, 6, 7, 8] rfl ?_
            exact ih (s + 1) le q (by omega) (ch_keep (by omega) (by omega) h1) (by omega) h3
          · refine sx_iload C 1 d_Ca_cheapestNext_69 rfl ?_
            refine sx_istore (lv' := [(5, sx_I (((s : Nat) : Int))), (9, sx_J ((M 28 (df s b)) + (M (46 + 1 + y) s))), (8, sx_I (((s : Nat) : Int))), (6, sx_J (le)), (0, sx_A (37)), (1, sx_I (((y : Nat) : Int))), (2, sx_I (((b : Nat) : Int))), (3, sx_I (((n : Nat) : Int))), (4, sx_A (17))]) C d_Ca_cheapestNext_71 (by rw [hnL]; decide) rfl ?_
            refine sx_lload C 1 d_Ca_cheapestNext_73 rfl ?_
            refine sx_lstore (lv' := [(6, sx_J ((M 28 (df s b)) + (M (46 + 1 + y) s))), (5, sx_I (((s : Nat) : Int))), (9, sx_J ((M 28 (df s b)) + (M (46 + 1 + y) s))), (8, sx_I (((s : Nat) : Int))), (0, sx_A (37)), (1, sx_I (((y : Nat) : Int))), (2, sx_I (((b : Nat) : Int))), (3, sx_I (((n : Nat) : Int))), (4, sx_A (17))]) C d_Ca_cheapestNext_75 (by rw [hnL]; decide) rfl ?_
            refine sx_iinc (lv' := [(8, sx_I (((s + 1 : Nat) : Int))), (6, sx_J ((M 28 (df s b)) + (M (46 + 1 + y) s))), (5, sx_I (((s : Nat) : Int))), (9, sx_J ((M 28 (df s b)) + (M (46 + 1 + y) s))), (0, sx_A (37)), (1, sx_I (((y : Nat) : Int))), (2, sx_I (((b : Nat) : Int))), (3, sx_I (((n : Nat) : Int))), (4, sx_A (17))]) C 3 d_Ca_cheapestNext_77 rfl (by rw [hnL]; decide) rfl ?_
            refine sx_goto C 9 d_Ca_cheapestNext_80 (by decide) ?_
            refine sx_sub [0, 1, 2, 4, 5, 6, 7, 8] rfl ?_
            exact ih (s + 1) _ _ (by omega) (ch_take k0 (by omega) h1) (by omega) (Or.inr ⟨by omega, by omega⟩)
set_option maxRecDepth 100000 in
set_option maxHeartbeats 4000000 in
theorem ct_Ca_cheapestNext (l : Launch) (D : va_G) (tc : Nat → ClassId) (M : sx_M0) (y b n : Nat) (hy : y < 6) (hb : b < 32) (hn9 : n ≤ 32) (hf : ∀ s, s < n → -1 ≤ M (46 + 1 + y) s ∧ M (46 + 1 + y) s ≤ 10000000000) (hc : ∀ s, s < n → 0 ≤ M 28 s ∧ M 28 s ≤ 10000000000) : sx_Met SC l D tc y_Ca_cheapestNext w_Ca_cheapestNext (rmk 0 0) [sx_A (37), sx_I (((y : Nat) : Int)), sx_I (((b : Nat) : Int)), sx_I (((n : Nat) : Int)), sx_A (17)] GL M (fun r G' M' => G' = GL ∧ M' = M ∧ ∃ q le : Int, r = some (sx_I q) ∧ chP (M (46 + 1 + y)) (M 28) b n q le) := by
  refine sx_enter (by decide) rfl (Nat.le_of_ble_eq_true rfl) (Ts := g_tbl) (fun _ h => List.mem_cons_of_mem _ h) (fun E C Rr hnm hnL => ?_)
  refine sx_iconst C d_Ca_cheapestNext_0 ?_
  refine sx_istore (lv' := [(5, sx_I (-1)), (0, sx_A (37)), (1, sx_I (((y : Nat) : Int))), (2, sx_I (((b : Nat) : Int))), (3, sx_I (((n : Nat) : Int))), (4, sx_A (17))]) C d_Ca_cheapestNext_1 (by rw [hnL]; decide) rfl ?_
  refine sx_lconst C 0 rfl d_Ca_cheapestNext_3 ?_
  refine sx_lstore (lv' := [(6, sx_J (0)), (5, sx_I (-1)), (0, sx_A (37)), (1, sx_I (((y : Nat) : Int))), (2, sx_I (((b : Nat) : Int))), (3, sx_I (((n : Nat) : Int))), (4, sx_A (17))]) C d_Ca_cheapestNext_4 (by rw [hnL]; decide) rfl ?_
  refine sx_iconst C d_Ca_cheapestNext_6 ?_
  refine sx_istore (lv' := [(8, sx_I (0)), (6, sx_J (0)), (5, sx_I (-1)), (0, sx_A (37)), (1, sx_I (((y : Nat) : Int))), (2, sx_I (((b : Nat) : Int))), (3, sx_I (((n : Nat) : Int))), (4, sx_A (17))]) C d_Ca_cheapestNext_7 (by rw [hnL]; decide) rfl ?_
  refine sx_sub [0, 1, 2, 3, 4, 5, 6, 7] rfl ?_
  exact lp_Ca_cheapestNext M y b n hy hb hn9 hf hc C Rr hnL _ 0 0 (-1) (Nat.lt_succ_self _) (Or.inl ⟨rfl, fun s hs => absurd hs (Nat.not_lt_zero s)⟩) (Nat.zero_le n) (Or.inl rfl)
def wnP (F O1 c : Nat → Int) (s n : Nat) (x : Int) : Prop := ∃ q le : Int, chP O1 c s n q le ∧ ((q = -1 ∧ x = -1) ∨ (q ≠ -1 ∧ x = F s + le))
set_option maxRecDepth 100000 in
set_option maxHeartbeats 4000000 in
theorem ct_Ca_withNext (l : Launch) (D : va_G) (tc : Nat → ClassId) (M : sx_M0) (y s n : Nat) (hy : y < 5) (hs : s < n) (hn9 : n ≤ 32) (hf : ∀ s, s < n → -1 ≤ M (46 + 1 + (y + 1)) s ∧ M (46 + 1 + (y + 1)) s ≤ 10000000000) (hc : ∀ s, s < n → 0 ≤ M 28 s ∧ M 28 s ≤ 10000000000) : sx_Met SC l D tc y_Ca_withNext w_Ca_withNext (rmk 1 40) [sx_A (37), sx_I (((y : Nat) : Int)), sx_I (((s : Nat) : Int)), sx_I (((n : Nat) : Int)), sx_A (17)] GL M (fun r G' M' => G' = GL ∧ M' = M ∧ ∃ x : Int, r = some (sx_J x) ∧ wnP (M (39 + 1 + y)) (M (46 + 1 + (y + 1))) (M 28) s n x) := by
  refine sx_enter (by decide) rfl (Nat.le_of_ble_eq_true rfl) (Ts := g_tbl) (fun _ h => List.mem_cons_of_mem _ h) (fun E C Rr hnm hnL => ?_)
  refine sx_aload_n C 0 d_Ca_withNext_0 rfl rfl ?_
  refine sx_iload_n C 1 d_Ca_withNext_1 rfl rfl ?_
  refine sx_iconst C d_Ca_withNext_2 ?_
  refine sx_iadd C d_Ca_withNext_3 ?_
  rw [show ((y : Nat) : Int) + 1 = (((y + 1) : Nat) : Int) by omega]
  refine sx_iload_n C 2 d_Ca_withNext_4 rfl rfl ?_
  refine sx_iload_n C 3 d_Ca_withNext_5 rfl rfl ?_
  refine sx_aload C 4 d_Ca_withNext_6 rfl ?_
  refine sx_callV (n := 71) (As := [sx_I ((((y + 1) : Nat) : Int)), sx_I (((s : Nat) : Int)), sx_I (((n : Nat) : Int)), sx_A (17)]) (st := []) C (ct_Ca_cheapestNext _ _ _ M (y + 1) s n (by omega) (by omega) hn9 hf hc) rfl (by decide) rfl (cv_Ca_46 E C _ (by rw [Rr.2.2]; decide)) (Nat.le_of_ble_eq_true rfl) d_Ca_withNext_8 (by rw [Rr.2.2]; decide) (by decide) rfl rfl rfl (fun r8 G8 M8 hpo _ => ?_)
  obtain ⟨e1, e2, q8, le8, rfl, hch8⟩ := hpo
  rw [e1, e2]
  have hb8 := ch_bd hf hc hch8
  show sx_X SC E (0, 0) GL M 11 [(0, sx_A (37)), (1, sx_I (((y : Nat) : Int))), (2, sx_I (((s : Nat) : Int))), (3, sx_I (((n : Nat) : Int))), (4, sx_A (17))] [sx_I (q8)]
  refine sx_istore (lv' := [(5, sx_I (q8)), (0, sx_A (37)), (1, sx_I (((y : Nat) : Int))), (2, sx_I (((s : Nat) : Int))), (3, sx_I (((n : Nat) : Int))), (4, sx_A (17))]) C d_Ca_withNext_11 (by rw [hnL]; decide) rfl ?_
  refine sx_iload C 0 d_Ca_withNext_13 rfl ?_
  refine sx_iconst C d_Ca_withNext_15 ?_
  refine sx_icmp_ne C 25 ⟨by omega, by omega⟩ ⟨by omega, by omega⟩ d_Ca_withNext_16 (by decide) (fun c16 => ?_) (fun c16 => ?_)
  · have hch := hch8
    rcases hch with ⟨z1, z2⟩ | ⟨t, z1, z2, z3, z4, z5⟩
    · exact absurd z1 c16
    have z6 := df_le t s
    rw [z2]
    refine sx_aload_n C 1 d_Ca_withNext_25 rfl rfl ?_
    refine sx_getr C f_Ca_21 39 (by decide) rfl rfl d_Ca_withNext_26 ?_
    refine sx_iload_n C 2 d_Ca_withNext_29 rfl rfl ?_
    refine sx_aaload C y (39 + 1 + y) (by decide) rfl rfl rfl (by omega) (by decide) (if_pos (by omega)) d_Ca_withNext_30 ?_
    refine sx_iload_n C 3 d_Ca_withNext_31 rfl rfl ?_
    refine sx_laload C s (by show (39 + 1 + y) < 71; omega) (gl_39 _ (by omega)) rfl rfl (by omega) (by decide) d_Ca_withNext_32 ?_
    refine sx_aload C 5 d_Ca_withNext_33 rfl ?_
    refine sx_getr C f_Ca_55 28 (by decide) rfl rfl d_Ca_withNext_35 ?_
    refine sx_iload C 0 d_Ca_withNext_38 rfl ?_
    refine sx_iload_n C 3 d_Ca_withNext_40 rfl rfl ?_
    refine sx_iconst C d_Ca_withNext_41 ?_
    refine sx_ixor C d_Ca_withNext_42 ?_
    refine sx_iand C d_Ca_withNext_43 ?_
    rw [df_eq t (by omega) s (by omega)]
    refine sx_laload C (df t s) (by decide) rfl rfl rfl (by omega) (by decide) d_Ca_withNext_44 ?_
    refine sx_ladd C d_Ca_withNext_45 ?_
    refine sx_aload_n C 1 d_Ca_withNext_46 rfl rfl ?_
    refine sx_getr C f_Ca_24 46 (by decide) rfl rfl d_Ca_withNext_47 ?_
    refine sx_iload_n C 2 d_Ca_withNext_50 rfl rfl ?_
    refine sx_iconst C d_Ca_withNext_51 ?_
    refine sx_iadd C d_Ca_withNext_52 ?_
    rw [show ((y : Nat) : Int) + 1 = (((y + 1) : Nat) : Int) by omega]
    refine sx_aaload C (y + 1) (46 + 1 + (y + 1)) (by decide) rfl rfl rfl (by omega) (by decide) (if_pos (by omega)) d_Ca_withNext_53 ?_
    refine sx_iload C 0 d_Ca_withNext_54 rfl ?_
    refine sx_laload C t (by show (46 + 1 + (y + 1)) < 71; omega) (gl_46 _ (by omega)) rfl rfl (by omega) (by decide) d_Ca_withNext_56 ?_
    refine sx_ladd C d_Ca_withNext_57 ?_
    refine sx_lreturn C Rr rfl d_Ca_withNext_58 ?_
    exact ⟨rfl, rfl, _, rfl, q8, le8, hch8, Or.inr ⟨c16, by rw [z4]; omega⟩⟩
  · refine sx_ldc2 (v := (-1)) C (-1) (tb_ 493 (by decide +kernel) rfl) (by decide) d_Ca_withNext_19 ?_
    refine sx_goto C 58 d_Ca_withNext_22 (by decide) ?_
    refine sx_lreturn C Rr rfl d_Ca_withNext_58 ?_
    exact ⟨rfl, rfl, -1, rfl, q8, le8, hch8, Or.inl ⟨by omega, rfl⟩⟩
