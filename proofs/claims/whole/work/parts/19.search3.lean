/-- the nearest of the first n usable places, or -1 -/
def nuS (M : sx_M0) (d : Nat) : Nat → Int
  | 0 => -1
  | p + 1 => if (M 17 12).toNat.testBit p = true ∧ M (20 + 1 + d) p ≠ -1 ∧ (nuS M d p = -1 ∨ M (20 + 1 + d) p < nuS M d p) then M (20 + 1 + d) p else nuS M d p
theorem nuS_bd {M : sx_M0} (hV : sv M) {d : Nat} (hd : d < 6) : ∀ n, n ≤ 5 → -1 ≤ nuS M d n ∧ nuS M d n ≤ 10000
  | 0, _ => by simp [nuS]
  | n + 1, h => by
    have h1 := nuS_bd hV hd n (by omega)
    have h2 := hV.2.2.2.1 d n hd (by omega)
    unfold nuS
    split <;> omega
theorem nuS_le {M : sx_M0} {d : Nat} : ∀ n p, p < n → (M 17 12).toNat.testBit p = true → M (20 + 1 + d) p ≠ -1 → nuS M d n ≠ -1 ∧ nuS M d n ≤ M (20 + 1 + d) p
  | 0, p, h, _, _ => by omega
  | n + 1, p, h, h1, h2 => by
    unfold nuS
    by_cases e : p = n
    · subst e
      by_cases c : nuS M d p = -1 ∨ M (20 + 1 + d) p < nuS M d p
      · rw [if_pos ⟨h1, h2, c⟩]
        exact ⟨h2, Int.le_refl _⟩
      · rw [if_neg (fun q => c q.2.2)]
        exact ⟨fun q => c (Or.inl q), by omega⟩
    · have ih := nuS_le n p (by omega) h1 h2
      split
      next q => exact ⟨q.2.1, by rcases q.2.2 with z | z; exact absurd z ih.1; omega⟩
      next q => exact ih
theorem nuS_none {M : sx_M0} {d n : Nat} (h : nuS M d n = -1) : ∀ p, p < n → (M 17 12).toNat.testBit p = true → M (20 + 1 + d) p = -1 := fun p hp h1 => by
  by_cases h2 : M (20 + 1 + d) p = -1
  · exact h2
  · exact absurd h (nuS_le n p hp h1 h2).1
set_option maxRecDepth 100000 in
set_option maxHeartbeats 4000000 in
theorem lp_Se_nearestUsable  (M : sx_M0) (hV : sv M) (d : Nat) (hd : d < 6) {E : sx_E} (C : sx_C SC g_tbl "SiteChoice$Search" c_Se_nearestUsable E) (Rr : sx_Ret SC (some .long) (rmk 1 40) (fun r G' M' => G' = GL ∧ M' = M ∧ r = some (sx_J (nuS M d (M 17 1).toNat))) E) (hnL : sx_nL E = 7) : ∀ (nF : Nat) (p : Nat) (a : Int), (M 17 1).toNat - p < nF → a = nuS M d p → p ≤ (M 17 1).toNat → sx_X SC E (0, 0) GL M 7 [(4, sx_I (((p : Nat) : Int))), (2, sx_J (a)), (0, sx_A (17)), (1, sx_I (((d : Nat) : Int)))] [] := by
  intro nF
  induction nF with
  | zero => intro p a h; omega
  | succ nF ih =>
    intro p a hn h1 h2
    have g1 := hV.2.1
    have hb := nuS_bd hV hd p (by omega)
    refine sx_iload C 0 d_Se_nearestUsable_7 rfl ?_
    refine sx_aload_n C 2 d_Se_nearestUsable_9 rfl rfl ?_
    refine sx_geti C f_Se_15 (by decide) rfl d_Se_nearestUsable_10 ?_
    refine sx_icmp_ge C 75 ⟨by omega, by omega⟩ ⟨by omega, by omega⟩ d_Se_nearestUsable_13 (by decide) (fun c13 => ?_) (fun c13 => ?_)
    · refine sx_lload_n C 1 d_Se_nearestUsable_75 rfl rfl ?_
      refine sx_lreturn C Rr rfl d_Se_nearestUsable_76 ?_
      exact ⟨rfl, rfl, by rw [h1, show p = (M 17 1).toNat by omega]⟩
    · have hR := hV.2.2.2.1 d p hd (by omega)
      refine sx_aload_n C 2 d_Se_nearestUsable_16 rfl rfl ?_
      refine sx_iload C 0 d_Se_nearestUsable_17 rfl ?_
      refine sx_callV (n := 71) (As := [sx_I (((p : Nat) : Int))]) (st := []) C (ct_Se_isUsable _ _ _ M hV p (by omega)) rfl (by decide) rfl (cv_Se_134 E C _ (by rw [Rr.2.2]; decide)) (Nat.le_of_ble_eq_true rfl) d_Se_nearestUsable_19 (by rw [Rr.2.2]; decide) (by decide) rfl rfl rfl (fun r19 G19 M19 hpo _ => ?_)
      obtain ⟨e1, e2, b19, rfl, hb19⟩ := hpo
      rw [e1, e2]
      show sx_X SC E (0, 0) GL M 22 [(4, sx_I (((p : Nat) : Int))), (2, sx_J (a)), (0, sx_A (17)), (1, sx_I (((d : Nat) : Int)))] [sx_I (b19)]
      refine sx_if_eq C 37 ⟨by omega, by omega⟩ d_Se_nearestUsable_22 (by decide) (fun c22 => ?_) (fun c22 => ?_)
      · refine sx_ldc2 (v := (-1)) C (-1) (tb_ 95 (by decide +kernel) rfl) (by decide) d_Se_nearestUsable_37 ?_
        refine sx_lstore (lv' := [(5, sx_J ((-1))), (4, sx_I (((p : Nat) : Int))), (2, sx_J (a)), (0, sx_A (17)), (1, sx_I (((d : Nat) : Int)))]) C d_Se_nearestUsable_40 (by rw [hnL]; decide) rfl ?_
        refine sx_lload C 0 d_Se_nearestUsable_42 rfl ?_
        refine sx_ldc2 (v := (-1)) C (-1) (tb_ 95 (by decide +kernel) rfl) (by decide) d_Se_nearestUsable_44 ?_
        refine sx_lcmp_eq C 69 ⟨by omega, by omega⟩ ⟨by omega, by omega⟩ d_Se_nearestUsable_47 d_Se_nearestUsable_48 (by decide) (fun c48 => ?_) (fun c48 => ?_)
        · refine sx_iinc (lv' := [(4, sx_I (((p + 1 : Nat) : Int))), (5, sx_J ((-1))), (2, sx_J (a)), (0, sx_A (17)), (1, sx_I (((d : Nat) : Int)))]) C 1 d_Se_nearestUsable_69 rfl (by rw [hnL]; decide) rfl ?_
          refine sx_goto C 7 d_Se_nearestUsable_72 (by decide) ?_
          refine sx_sub [0, 2, 3, 4] rfl ?_
          exact ih (p + 1) _ (by omega) (by rw [h1, nuS, if_neg]; rintro ⟨z1, z2, z3⟩; first | omega | (rcases hb19 with ⟨q1, q2⟩ | ⟨q1, q2⟩ <;> first | omega | exact q2 z1)) (by omega)
        · refine sx_lload_n C 2 d_Se_nearestUsable_51 rfl rfl ?_
          refine sx_ldc2 (v := (-1)) C (-1) (tb_ 95 (by decide +kernel) rfl) (by decide) d_Se_nearestUsable_52 ?_
          refine sx_lcmp_eq C 66 ⟨by omega, by omega⟩ ⟨by omega, by omega⟩ d_Se_nearestUsable_55 d_Se_nearestUsable_56 (by decide) (fun c56 => ?_) (fun c56 => ?_)
          · refine sx_lload C 0 d_Se_nearestUsable_66 rfl ?_
            refine sx_lstore_n (lv' := [(2, sx_J ((-1))), (5, sx_J ((-1))), (4, sx_I (((p : Nat) : Int))), (0, sx_A (17)), (1, sx_I (((d : Nat) : Int)))]) C d_Se_nearestUsable_68 rfl (by rw [hnL]; decide) rfl ?_
            refine sx_iinc (lv' := [(4, sx_I (((p + 1 : Nat) : Int))), (2, sx_J ((-1))), (5, sx_J ((-1))), (0, sx_A (17)), (1, sx_I (((d : Nat) : Int)))]) C 2 d_Se_nearestUsable_69 rfl (by rw [hnL]; decide) rfl ?_
            refine sx_goto C 7 d_Se_nearestUsable_72 (by decide) ?_
            exact absurd rfl c48
          · refine sx_lload C 0 d_Se_nearestUsable_59 rfl ?_
            refine sx_lload_n C 2 d_Se_nearestUsable_61 rfl rfl ?_
            refine sx_lcmp_ge C 69 ⟨by omega, by omega⟩ ⟨by omega, by omega⟩ d_Se_nearestUsable_62 d_Se_nearestUsable_63 (by decide) (fun c63 => ?_) (fun c63 => ?_)
            · refine sx_iinc (lv' := [(4, sx_I (((p + 1 : Nat) : Int))), (5, sx_J ((-1))), (2, sx_J (a)), (0, sx_A (17)), (1, sx_I (((d : Nat) : Int)))]) C 1 d_Se_nearestUsable_69 rfl (by rw [hnL]; decide) rfl ?_
              refine sx_goto C 7 d_Se_nearestUsable_72 (by decide) ?_
              refine sx_sub [0, 2, 3, 4] rfl ?_
              exact ih (p + 1) _ (by omega) (by rw [h1, nuS, if_neg]; rintro ⟨z1, z2, z3⟩; first | omega | (rcases hb19 with ⟨q1, q2⟩ | ⟨q1, q2⟩ <;> first | omega | exact q2 z1)) (by omega)
            · refine sx_lload C 0 d_Se_nearestUsable_66 rfl ?_
              refine sx_lstore_n (lv' := [(2, sx_J ((-1))), (5, sx_J ((-1))), (4, sx_I (((p : Nat) : Int))), (0, sx_A (17)), (1, sx_I (((d : Nat) : Int)))]) C d_Se_nearestUsable_68 rfl (by rw [hnL]; decide) rfl ?_
              refine sx_iinc (lv' := [(4, sx_I (((p + 1 : Nat) : Int))), (2, sx_J ((-1))), (5, sx_J ((-1))), (0, sx_A (17)), (1, sx_I (((d : Nat) : Int)))]) C 2 d_Se_nearestUsable_69 rfl (by rw [hnL]; decide) rfl ?_
              refine sx_goto C 7 d_Se_nearestUsable_72 (by decide) ?_
              exact absurd rfl c48
      · refine sx_aload_n C 2 d_Se_nearestUsable_25 rfl rfl ?_
        refine sx_getr C f_Se_27 20 (by decide) rfl rfl d_Se_nearestUsable_26 ?_
        refine sx_iload_n C 3 d_Se_nearestUsable_29 rfl rfl ?_
        refine sx_aaload C d (20 + 1 + d) (by decide) rfl rfl rfl (by omega) (by decide) (if_pos (by omega)) d_Se_nearestUsable_30 ?_
        refine sx_iload C 0 d_Se_nearestUsable_31 rfl ?_
        refine sx_laload C p (by show (20 + 1 + d) < 71; omega) (gl_20 _ (by omega)) rfl rfl (by omega) (by decide) d_Se_nearestUsable_33 ?_
        refine sx_goto C 40 d_Se_nearestUsable_34 (by decide) ?_
        refine sx_lstore (lv' := [(5, sx_J (M (20 + 1 + d) p)), (4, sx_I (((p : Nat) : Int))), (2, sx_J (a)), (0, sx_A (17)), (1, sx_I (((d : Nat) : Int)))]) C d_Se_nearestUsable_40 (by rw [hnL]; decide) rfl ?_
        refine sx_lload C 0 d_Se_nearestUsable_42 rfl ?_
        refine sx_ldc2 (v := (-1)) C (-1) (tb_ 95 (by decide +kernel) rfl) (by decide) d_Se_nearestUsable_44 ?_
        refine sx_lcmp_eq C 69 ⟨by omega, by omega⟩ ⟨by omega, by omega⟩ d_Se_nearestUsable_47 d_Se_nearestUsable_48 (by decide) (fun c48 => ?_) (fun c48 => ?_)
        · refine sx_iinc (lv' := [(4, sx_I (((p + 1 : Nat) : Int))), (5, sx_J (M (20 + 1 + d) p)), (2, sx_J (a)), (0, sx_A (17)), (1, sx_I (((d : Nat) : Int)))]) C 1 d_Se_nearestUsable_69 rfl (by rw [hnL]; decide) rfl ?_
          refine sx_goto C 7 d_Se_nearestUsable_72 (by decide) ?_
          refine sx_sub [0, 2, 3, 4] rfl ?_
          exact ih (p + 1) _ (by omega) (by rw [h1, nuS, if_neg]; rintro ⟨z1, z2, z3⟩; first | omega | (rcases hb19 with ⟨q1, q2⟩ | ⟨q1, q2⟩ <;> first | omega | exact q2 z1)) (by omega)
        · refine sx_lload_n C 2 d_Se_nearestUsable_51 rfl rfl ?_
          refine sx_ldc2 (v := (-1)) C (-1) (tb_ 95 (by decide +kernel) rfl) (by decide) d_Se_nearestUsable_52 ?_
          refine sx_lcmp_eq C 66 ⟨by omega, by omega⟩ ⟨by omega, by omega⟩ d_Se_nearestUsable_55 d_Se_nearestUsable_56 (by decide) (fun c56 => ?_) (fun c56 => ?_)
          · refine sx_lload C 0 d_Se_nearestUsable_66 rfl ?_
            refine sx_lstore_n (lv' := [(2, sx_J (M (20 + 1 + d) p)), (5, sx_J (M (20 + 1 + d) p)), (4, sx_I (((p : Nat) : Int))), (0, sx_A (17)), (1, sx_I (((d : Nat) : Int)))]) C d_Se_nearestUsable_68 rfl (by rw [hnL]; decide) rfl ?_
            refine sx_iinc (lv' := [(4, sx_I (((p + 1 : Nat) : Int))), (2, sx_J (M (20 + 1 + d) p)), (5, sx_J (M (20 + 1 + d) p)), (0, sx_A (17)), (1, sx_I (((d : Nat) : Int)))]) C 2 d_Se_nearestUsable_69 rfl (by rw [hnL]; decide) rfl ?_
            refine sx_goto C 7 d_Se_nearestUsable_72 (by decide) ?_
            refine sx_sub [0, 1, 3, 4] rfl ?_
            exact ih (p + 1) _ (by omega) (by rw [nuS, if_pos]; exact ⟨by rcases hb19 with ⟨q1, q2⟩ | ⟨q1, q2⟩; exact q2; omega, by omega, by omega⟩) (by omega)
          · refine sx_lload C 0 d_Se_nearestUsable_59 rfl ?_
            refine sx_lload_n C 2 d_Se_nearestUsable_61 rfl rfl ?_
            refine sx_lcmp_ge C 69 ⟨by omega, by omega⟩ ⟨by omega, by omega⟩ d_Se_nearestUsable_62 d_Se_nearestUsable_63 (by decide) (fun c63 => ?_) (fun c63 => ?_)
            · refine sx_iinc (lv' := [(4, sx_I (((p + 1 : Nat) : Int))), (5, sx_J (M (20 + 1 + d) p)), (2, sx_J (a)), (0, sx_A (17)), (1, sx_I (((d : Nat) : Int)))]) C 1 d_Se_nearestUsable_69 rfl (by rw [hnL]; decide) rfl ?_
              refine sx_goto C 7 d_Se_nearestUsable_72 (by decide) ?_
              refine sx_sub [0, 2, 3, 4] rfl ?_
              exact ih (p + 1) _ (by omega) (by rw [h1, nuS, if_neg]; rintro ⟨z1, z2, z3⟩; first | omega | (rcases hb19 with ⟨q1, q2⟩ | ⟨q1, q2⟩ <;> first | omega | exact q2 z1)) (by omega)
            · refine sx_lload C 0 d_Se_nearestUsable_66 rfl ?_
              refine sx_lstore_n (lv' := [(2, sx_J (M (20 + 1 + d) p)), (5, sx_J (M (20 + 1 + d) p)), (4, sx_I (((p : Nat) : Int))), (0, sx_A (17)), (1, sx_I (((d : Nat) : Int)))]) C d_Se_nearestUsable_68 rfl (by rw [hnL]; decide) rfl ?_
              refine sx_iinc (lv' := [(4, sx_I (((p + 1 : Nat) : Int))), (2, sx_J (M (20 + 1 + d) p)), (5, sx_J (M (20 + 1 + d) p)), (0, sx_A (17)), (1, sx_I (((d : Nat) : Int)))]) C 2 d_Se_nearestUsable_69 rfl (by rw [hnL]; decide) rfl ?_
              refine sx_goto C 7 d_Se_nearestUsable_72 (by decide) ?_
              refine sx_sub [0, 1, 3, 4] rfl ?_
              exact ih (p + 1) _ (by omega) (by rw [nuS, if_pos]; exact ⟨by rcases hb19 with ⟨q1, q2⟩ | ⟨q1, q2⟩; exact q2; omega, by omega, by omega⟩) (by omega)
set_option maxRecDepth 100000 in
set_option maxHeartbeats 4000000 in
theorem ct_Se_nearestUsable (l : Launch) (D : va_G) (tc : Nat → ClassId) (M : sx_M0) (hV : sv M) (d : Nat) (hd : d < 6) : sx_Met SC l D tc y_Se_nearestUsable w_Se_nearestUsable (rmk 1 40) [sx_A (17), sx_I (((d : Nat) : Int))] GL M (fun r G' M' => G' = GL ∧ M' = M ∧ r = some (sx_J (nuS M d (M 17 1).toNat))) := by
  refine sx_enter (by decide) rfl (Nat.le_of_ble_eq_true rfl) (Ts := g_tbl) (fun _ h => List.mem_cons_of_mem _ h) (fun E C Rr hnm hnL => ?_)
  refine sx_ldc2 (v := (-1)) C (-1) (tb_ 95 (by decide +kernel) rfl) (by decide) d_Se_nearestUsable_0 ?_
  refine sx_lstore_n (lv' := [(2, sx_J ((-1))), (0, sx_A (17)), (1, sx_I (((d : Nat) : Int)))]) C d_Se_nearestUsable_3 rfl (by rw [hnL]; decide) rfl ?_
  refine sx_iconst C d_Se_nearestUsable_4 ?_
  refine sx_istore (lv' := [(4, sx_I (0)), (2, sx_J ((-1))), (0, sx_A (17)), (1, sx_I (((d : Nat) : Int)))]) C d_Se_nearestUsable_5 (by rw [hnL]; decide) rfl ?_
  refine sx_sub [0, 1, 2, 3] rfl ?_
  exact lp_Se_nearestUsable M hV d hd C Rr hnL _ 0 (-1) (Nat.lt_succ_self _) rfl (Nat.zero_le _)
/-- the least that the n districts from d on could add -/
def lrS (M : sx_M0) : Nat → Nat → Int
  | 0, _ => 0
  | n + 1, d => lrS M n (d + 1) + (if 0 < M 18 d then M 18 d * nuS M d (M 17 1).toNat else 0)
def rlI (M0 M : sx_M0) (e : Nat) : Prop := (∀ a, a ≠ 29 → M a = M0 a) ∧ (∀ d, d < 7 → 0 ≤ M 29 d ∧ M 29 d ≤ 10000000) ∧ (∀ d, e ≤ d → d < dN M0 → 0 < M0 18 d → nuS M0 d (M0 17 1).toNat ≠ -1) ∧ (∀ d, e ≤ d → d ≤ dN M0 → M 29 d = lrS M0 (dN M0 - d) d) ∧ M 29 e ≤ 1500000 * ((dN M0 : Int) - e)
theorem nuS_eq {M M' : sx_M0} (h : ∀ a, a ≠ 29 → M' a = M a) {d : Nat} (hd : d < 6) : ∀ n, nuS M' d n = nuS M d n
  | 0 => rfl
  | n + 1 => by
    unfold nuS
    rw [nuS_eq h hd n, h 17 (by decide), h (20 + 1 + d) (by omega)]
theorem sv_29 {M0 M : sx_M0} (hV : sv M0) (f1 : ∀ a, a ≠ 29 → M a = M0 a) (f2 : ∀ d, d < 7 → 0 ≤ M 29 d ∧ M 29 d ≤ 10000000) : sv M := by
  unfold sv at hV ⊢
  rw [f1 17 (by decide), f1 18 (by decide), f1 27 (by decide)]
  refine ⟨hV.1, hV.2.1, hV.2.2.1, fun d p hd hp => ?_, hV.2.2.2.2.1, hV.2.2.2.2.2.1, hV.2.2.2.2.2.2.1, f2, hV.2.2.2.2.2.2.2.2⟩
  rw [f1 (20 + 1 + d) (by omega)]
  exact hV.2.2.2.1 d p hd hp
theorem rl_0 {M : sx_M0} (hV : sv M) : rlI M (sx_up M 29 (dN M) 0) (dN M) := by
  have g0 := hV.1
  refine ⟨fun a ha => sx_up_ne ha, fun d hd => ?_, fun d h1 h2 => by omega, fun d h1 h2 => ?_, ?_⟩
  · by_cases e : d = dN M
    · subst e
      rw [sx_up_at]
      omega
    · rw [sx_up_slot e]
      exact hV.2.2.2.2.2.2.2.1 d hd
  · have e : d = dN M := by omega
    subst e
    rw [sx_up_at, Nat.sub_self]
    rfl
  · rw [sx_up_at]
    omega
theorem rl_no {M0 M : sx_M0} {m : Nat} (hV : sv M0) (hm : m < dN M0) (h0 : ¬ 0 < M0 18 m) (h : rlI M0 M (m + 1)) : rlI M0 (sx_up M 29 m (M 29 (m + 1))) m := by
  obtain ⟨f1, f2, f3, f4, f5⟩ := h
  have g0 := hV.1
  have hD : dN M0 ≤ 6 := by unfold dN; omega
  refine ⟨fun a ha => by rw [sx_up_ne ha]; exact f1 a ha, fun d hd => ?_, fun d h1 h2 h3 => ?_, fun d h1 h2 => ?_, ?_⟩
  · by_cases e : d = m
    · subst e
      rw [sx_up_at]
      exact f2 _ (by omega)
    · rw [sx_up_slot e]
      exact f2 d hd
  · by_cases e : d = m
    · subst e
      exact absurd h3 h0
    · exact f3 d (by omega) h2 h3
  · by_cases e : d = m
    · subst e
      rw [sx_up_at, f4 (d + 1) (by omega) (by omega), show dN M0 - d = dN M0 - (d + 1) + 1 by omega]
      show _ = lrS M0 _ (d + 1) + (if 0 < M0 18 d then _ else 0)
      rw [if_neg h0]
      omega
    · rw [sx_up_slot e]
      exact f4 d (by omega) h2
  · rw [sx_up_at]
    have e : ((m + 1 : Nat) : Int) = (m : Int) + 1 := rfl
    rw [e] at f5
    omega
theorem rl_yes {M0 M : sx_M0} {m : Nat} {x : Int} (hV : sv M0) (hm : m < dN M0) (h0 : 0 < M0 18 m) (hx : x = nuS M0 m (M0 17 1).toNat) (hx1 : x ≠ -1) (h : rlI M0 M (m + 1)) : rlI M0 (sx_up (sx_up M 29 m (M 29 (m + 1))) 29 m (M 29 (m + 1) + M0 18 m * x)) m := by
  obtain ⟨f1, f2, f3, f4, f5⟩ := h
  have g0 := hV.1
  have g1 := hV.2.1
  have hD : dN M0 ≤ 6 := by unfold dN; omega
  have hn := hV.2.2.1 m (by omega)
  have hb := nuS_bd hV (show m < 6 by omega) (M0 17 1).toNat (by omega)
  have hmul := mul_bd hn.1 hn.2 (show 0 ≤ x by omega) (by omega)
  have q := f2 (m + 1) (by omega)
  have e1 : ((m + 1 : Nat) : Int) = (m : Int) + 1 := rfl
  rw [e1] at f5
  refine ⟨fun a ha => by rw [sx_up_ne ha, sx_up_ne ha]; exact f1 a ha, fun d hd => ?_, fun d h1 h2 h3 => ?_, fun d h1 h2 => ?_, ?_⟩
  · by_cases e : d = m
    · subst e
      rw [sx_up_at]
      omega
    · rw [sx_up_slot e, sx_up_slot e]
      exact f2 d hd
  · by_cases e : d = m
    · subst e
      rw [← hx]
      exact hx1
    · exact f3 d (by omega) h2 h3
  · by_cases e : d = m
    · subst e
      rw [sx_up_at, f4 (d + 1) (by omega) (by omega), show dN M0 - d = dN M0 - (d + 1) + 1 by omega]
      show _ = lrS M0 _ (d + 1) + (if 0 < M0 18 d then _ else 0)
      rw [if_pos h0, hx]
    · rw [sx_up_slot e, sx_up_slot e]
      exact f4 d (by omega) h2
  · rw [sx_up_at]
    omega
set_option maxRecDepth 100000 in
set_option maxHeartbeats 4000000 in
theorem lp_Se_reckonLeastRest (M0 : sx_M0) (hV : sv M0) {E : sx_E} (C : sx_C SC g_tbl "SiteChoice$Search" c_Se_reckonLeastRest E) (Rr : sx_Ret SC (some .boolean) (rmk 2 80) (fun r G' M' => G' = GL ∧ ∃ b : Int, r = some (sx_I b) ∧ (∀ a, a ≠ 29 → M' a = M0 a) ∧ (∀ d, d < 7 → 0 ≤ M' 29 d ∧ M' 29 d ≤ 10000000) ∧ ((b = 1 ∧ rlI M0 M' 0) ∨ (b = 0 ∧ ∃ d, d < dN M0 ∧ 0 < M0 18 d ∧ nuS M0 d (M0 17 1).toNat = -1))) E) (hnL : sx_nL E = 4) : ∀ (e : Nat), e ≤ dN M0 → ∀ (M : sx_M0), rlI M0 M e → sx_X SC E (0, 0) GL M 17 [(1, sx_I (((e : Nat) : Int) - 1)), (0, sx_A (17))] [] := by
  intro e
  have g0 := hV.1
  have g1 := hV.2.1
  have hD : dN M0 ≤ 6 := by unfold dN; omega
  induction e with
  | zero =>
    intro _ M h1
    refine sx_iload_n C 0 d_Se_reckonLeastRest_17 rfl rfl ?_
    refine sx_if_lt C 85 ⟨by omega, by omega⟩ d_Se_reckonLeastRest_18 (by decide) (fun c18 => ?_) (fun c18 => ?_)
    · refine sx_iconst C d_Se_reckonLeastRest_85 ?_
      refine sx_zreturn C Rr (by omega) rfl d_Se_reckonLeastRest_86 ?_
      exact ⟨rfl, 1, rfl, h1.1, h1.2.1, Or.inl ⟨rfl, h1⟩⟩
    · exfalso; omega
  | succ m ih =>
    intro hm1 M h1
    have hm : m < dN M0 := hm1
    replace ih := ih (by omega)
    rw [show (((m + 1 : Nat) : Nat) : Int) - 1 = ((m : Nat) : Int) by omega]
    refine sx_iload_n C 0 d_Se_reckonLeastRest_17 rfl rfl ?_
    refine sx_if_lt C 85 ⟨by omega, by omega⟩ d_Se_reckonLeastRest_18 (by decide) (fun c18 => ?_) (fun c18 => ?_)
    · exfalso; omega
    · refine sx_aload_n C 1 d_Se_reckonLeastRest_21 rfl rfl ?_
      refine sx_getr C f_Se_37 29 (by decide) rfl rfl d_Se_reckonLeastRest_22 ?_
      refine sx_iload_n C 0 d_Se_reckonLeastRest_25 rfl rfl ?_
      refine sx_aload_n C 1 d_Se_reckonLeastRest_26 rfl rfl ?_
      refine sx_getr C f_Se_37 29 (by decide) rfl rfl d_Se_reckonLeastRest_27 ?_
      refine sx_iload_n C 0 d_Se_reckonLeastRest_30 rfl rfl ?_
      refine sx_iconst C d_Se_reckonLeastRest_31 ?_
      refine sx_iadd C d_Se_reckonLeastRest_32 ?_
      show sx_X SC E (0, 0) GL M 33 [(1, sx_I (((m : Nat) : Int))), (0, sx_A 17)] [sx_I (((m + 1 : Nat) : Int)), sx_A 29, sx_I (((m : Nat) : Int)), sx_A 29]
      refine sx_laload C (m + 1) (by decide) rfl rfl rfl (by omega) (by decide) d_Se_reckonLeastRest_33 ?_
      refine sx_lastore C m (by decide) rfl rfl rfl (by omega) (by decide) d_Se_reckonLeastRest_34 ?_
      refine sx_aload_n C 1 d_Se_reckonLeastRest_35 rfl rfl ?_
      refine sx_getr C f_Se_18 18 (by decide) rfl rfl d_Se_reckonLeastRest_36 ?_
      refine sx_iload_n C 0 d_Se_reckonLeastRest_39 rfl rfl ?_
      have f18 : M 18 = M0 18 := h1.1 18 (by decide)
      have hN := hV.2.2.1 m (by omega)
      refine sx_laload C m (by decide) rfl rfl rfl (by omega) (by decide) d_Se_reckonLeastRest_40 ?_
      rw [sx_up_ne (by decide), f18]
      refine sx_lconst C 0 rfl d_Se_reckonLeastRest_41 ?_
      refine sx_lcmp_le C 79 ⟨by omega, by omega⟩ ⟨by omega, by omega⟩ d_Se_reckonLeastRest_42 d_Se_reckonLeastRest_43 (by decide) (fun c43 => ?_) (fun c43 => ?_)
      · refine sx_iinc (lv' := [(1, sx_I (((m : Nat) : Int) + (-1))), (0, sx_A (17))]) C 0 d_Se_reckonLeastRest_79 rfl (by rw [hnL]; decide) rfl ?_
        refine sx_goto C 17 d_Se_reckonLeastRest_82 (by decide) ?_
        refine sx_sub [0, 1] rfl ?_
        rw [show ((m : Nat) : Int) + (-1) = ((m : Nat) : Int) - 1 from rfl]
        exact ih _ (rl_no hV hm (by omega) h1)
      · have hVM : sv (sx_up M 29 m (M 29 (m + 1))) := sv_29 hV (fun a ha => by rw [sx_up_ne ha]; exact h1.1 a ha) (fun d hd => by by_cases e : d = m; (subst e; rw [sx_up_at]; exact h1.2.1 _ (by omega)); (rw [sx_up_slot e]; exact h1.2.1 d hd))
        refine sx_aload_n C 1 d_Se_reckonLeastRest_46 rfl rfl ?_
        refine sx_iload_n C 0 d_Se_reckonLeastRest_47 rfl rfl ?_
        refine sx_callV (n := 71) (As := [sx_I (((m : Nat) : Int))]) (st := []) C (ct_Se_nearestUsable _ _ _ _ hVM m (by omega)) rfl (by decide) rfl (cv_Se_131 E C _ (by rw [Rr.2.2]; decide)) (Nat.le_of_ble_eq_true rfl) d_Se_reckonLeastRest_48 (by rw [Rr.2.2]; decide) (by decide) rfl rfl rfl (fun r48 G48 M48 hpo _ => ?_)
        obtain ⟨e1, e2, rfl⟩ := hpo
        rw [e1, e2]
        show sx_X SC E (0, 0) GL (sx_up M 29 m (M 29 (m + 1))) 51 [(1, sx_I (((m : Nat) : Int))), (0, sx_A (17))] [sx_J (nuS (sx_up M 29 m (M 29 (m + 1))) m ((sx_up M 29 m (M 29 (m + 1))) 17 1).toNat)]
        generalize hx : (nuS (sx_up M 29 m (M 29 (m + 1))) m ((sx_up M 29 m (M 29 (m + 1))) 17 1).toNat) = x
        refine sx_lstore_n (lv' := [(2, sx_J (x)), (1, sx_I (((m : Nat) : Int))), (0, sx_A (17))]) C d_Se_reckonLeastRest_51 rfl (by rw [hnL]; decide) rfl ?_
        have hx2 : x = nuS M0 m (M0 17 1).toNat := by rw [← hx, nuS_eq (M := M0) (fun a ha => by rw [sx_up_ne ha]; exact h1.1 a ha) (by omega), sx_up_ne (by decide), h1.1 17 (by decide)]
        have hbx := nuS_bd hV (show m < 6 by omega) (M0 17 1).toNat (by omega)
        refine sx_lload_n C 0 d_Se_reckonLeastRest_52 rfl rfl ?_
        refine sx_ldc2 (v := (-1)) C (-1) (tb_ 95 (by decide +kernel) rfl) (by decide) d_Se_reckonLeastRest_53 ?_
        refine sx_lcmp_ne C 62 ⟨by omega, by omega⟩ ⟨by omega, by omega⟩ d_Se_reckonLeastRest_56 d_Se_reckonLeastRest_57 (by decide) (fun c57 => ?_) (fun c57 => ?_)
        · refine sx_aload_n C 2 d_Se_reckonLeastRest_62 rfl rfl ?_
          refine sx_getr C f_Se_37 29 (by decide) rfl rfl d_Se_reckonLeastRest_63 ?_
          refine sx_iload_n C 1 d_Se_reckonLeastRest_66 rfl rfl ?_
          refine sx_dup2_11 C d_Se_reckonLeastRest_67 rfl rfl ?_
          refine sx_laload C m (by decide) rfl rfl rfl (by omega) (by decide) d_Se_reckonLeastRest_68 ?_
          rw [sx_up_at]
          refine sx_aload_n C 2 d_Se_reckonLeastRest_69 rfl rfl ?_
          refine sx_getr C f_Se_18 18 (by decide) rfl rfl d_Se_reckonLeastRest_70 ?_
          refine sx_iload_n C 1 d_Se_reckonLeastRest_73 rfl rfl ?_
          refine sx_laload C m (by decide) rfl rfl rfl (by omega) (by decide) d_Se_reckonLeastRest_74 ?_
          rw [sx_up_ne (by decide), f18]
          refine sx_lload_n C 0 d_Se_reckonLeastRest_75 rfl rfl ?_
          refine sx_lmul C d_Se_reckonLeastRest_76 ?_
          refine sx_ladd C d_Se_reckonLeastRest_77 ?_
          refine sx_lastore C m (by decide) rfl rfl rfl (by omega) (by decide) d_Se_reckonLeastRest_78 ?_
          refine sx_iinc (lv' := [(1, sx_I (((m : Nat) : Int) + (-1))), (2, sx_J (x)), (0, sx_A (17))]) C 1 d_Se_reckonLeastRest_79 rfl (by rw [hnL]; decide) rfl ?_
          refine sx_goto C 17 d_Se_reckonLeastRest_82 (by decide) ?_
          refine sx_sub [0, 2] rfl ?_
          rw [show ((m : Nat) : Int) + (-1) = ((m : Nat) : Int) - 1 from rfl]
          exact ih _ (rl_yes hV hm (by omega) hx2 (by omega) h1)
        · refine sx_iconst C d_Se_reckonLeastRest_60 ?_
          refine sx_zreturn C Rr (by omega) rfl d_Se_reckonLeastRest_61 ?_
          exact ⟨rfl, 0, rfl, fun a ha => by rw [sx_up_ne ha]; exact h1.1 a ha, fun d hd => by by_cases e : d = m; (subst e; rw [sx_up_at]; exact h1.2.1 _ (by omega)); (rw [sx_up_slot e]; exact h1.2.1 d hd), Or.inr ⟨rfl, m, hm, by omega, by rw [← hx2]; omega⟩⟩
set_option maxRecDepth 100000 in
set_option maxHeartbeats 4000000 in
theorem ct_Se_reckonLeastRest (l : Launch) (D : va_G) (tc : Nat → ClassId) (M : sx_M0) (hV : sv M) : sx_Met SC l D tc y_Se_reckonLeastRest w_Se_reckonLeastRest (rmk 2 80) [sx_A (17)] GL M (fun r G' M' => G' = GL ∧ ∃ b : Int, r = some (sx_I b) ∧ (∀ a, a ≠ 29 → M' a = M a) ∧ (∀ d, d < 7 → 0 ≤ M' 29 d ∧ M' 29 d ≤ 10000000) ∧ ((b = 1 ∧ rlI M M' 0) ∨ (b = 0 ∧ ∃ d, d < dN M ∧ 0 < M 18 d ∧ nuS M d (M 17 1).toNat = -1))) := by
  refine sx_enter (by decide) rfl (Nat.le_of_ble_eq_true rfl) (Ts := g_tbl) (fun _ h => List.mem_cons_of_mem _ h) (fun E C Rr hnm hnL => ?_)
  have g0 := hV.1
  have hD : dN M ≤ 6 := by unfold dN; omega
  refine sx_aload_n C 0 d_Se_reckonLeastRest_0 rfl rfl ?_
  refine sx_getr C f_Se_37 29 (by decide) rfl rfl d_Se_reckonLeastRest_1 ?_
  refine sx_aload_n C 0 d_Se_reckonLeastRest_4 rfl rfl ?_
  refine sx_geti C f_Se_9 (by decide) rfl d_Se_reckonLeastRest_5 ?_
  refine sx_lconst C 0 rfl d_Se_reckonLeastRest_8 ?_
  refine sx_lastore C (dN M) (by decide) rfl rfl (by unfold dN; omega) (by omega) (by decide) d_Se_reckonLeastRest_9 ?_
  refine sx_aload_n C 0 d_Se_reckonLeastRest_10 rfl rfl ?_
  refine sx_geti C f_Se_9 (by decide) rfl d_Se_reckonLeastRest_11 ?_
  refine sx_iconst C d_Se_reckonLeastRest_14 ?_
  refine sx_isub C d_Se_reckonLeastRest_15 ?_
  refine sx_istore_n (lv' := [(1, sx_I (((sx_up M 29 (dN M) 0) 17 0) - 1)), (0, sx_A (17))]) C d_Se_reckonLeastRest_16 rfl (by rw [hnL]; decide) rfl ?_
  rw [show (sx_up M 29 (dN M) 0) 17 0 - 1 = ((dN M : Nat) : Int) - 1 by rw [sx_up_ne (by decide)]; unfold dN; omega]
  refine sx_sub [0, 1] rfl ?_
  exact lp_Se_reckonLeastRest M hV C Rr hnL (dN M) (Nat.le_refl _) _ (rl_0 hV)
