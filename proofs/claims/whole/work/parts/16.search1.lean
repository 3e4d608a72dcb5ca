/-- what holds of the search's cells -/
def sv (M : sx_M0) : Prop := (0 ≤ M 17 0 ∧ M 17 0 ≤ 6) ∧ (0 ≤ M 17 1 ∧ M 17 1 ≤ 5) ∧ (∀ d, d < 6 → 0 ≤ M 18 d ∧ M 18 d ≤ 150) ∧ (∀ d p, d < 6 → p < 5 → -1 ≤ M (20 + 1 + d) p ∧ M (20 + 1 + d) p ≤ 10000) ∧ (∀ s, s < 32 → M 27 s = 0 ∨ M 27 s = 1) ∧ (0 ≤ M 17 12 ∧ M 17 12 ≤ 31) ∧ (M 17 13 = 0 ∨ M 17 13 = 1) ∧ (∀ d, d < 7 → 0 ≤ M 29 d ∧ M 29 d ≤ 10000000) ∧ (-1 ≤ M 17 11 ∧ M 17 11 ≤ 100000000)
def jS (M : sx_M0) : mt_J := ((M 17 0).toNat, (M 17 1).toNat, fun d => M 18 d, fun d p => if d < 6 then M (20 + 1 + d) p else 0, fun s => M 27 s, (M 17 12).toNat)
theorem bit_n : ∀ u, u < 32 → ∀ p, p < 5 → (sx_and (sx_shr ((u : Nat) : Int) ((p : Nat) : Int)) 1 = 1 ∧ u.testBit p = true) ∨ (sx_and (sx_shr ((u : Nat) : Int) ((p : Nat) : Int)) 1 = 0 ∧ u.testBit p = false) := by decide +kernel
theorem bit_u (u : Int) (p : Nat) (h0 : 0 ≤ u) (h1 : u ≤ 31) (hp : p < 5) : (sx_and (sx_shr u ((p : Nat) : Int)) 1 = 1 ∧ u.toNat.testBit p = true) ∨ (sx_and (sx_shr u ((p : Nat) : Int)) 1 = 0 ∧ u.toNat.testBit p = false) := by
  have e : ((u.toNat : Nat) : Int) = u := by omega
  have h := bit_n u.toNat (by omega) p hp
  rw [e] at h
  exact h
theorem or_bit : ∀ s, s < 32 → ∀ p, p < 5 → sx_or ((s : Nat) : Int) (sx_shl 1 ((p : Nat) : Int)) = ((s ||| 2 ^ p : Nat) : Int) ∧ s ||| 2 ^ p < 32 := by decide +kernel
/-- the first district from k on (at most n further) with a need, or the end -/
def nwS (M : sx_M0) : Nat → Nat → Nat
  | 0, k => k
  | n + 1, k => if M 18 k = 0 then nwS M n (k + 1) else k
theorem nwS_z {M : sx_M0} {n k : Nat} (h : M 18 k = 0) : nwS M (n + 1) k = nwS M n (k + 1) := by
  show (if M 18 k = 0 then nwS M n (k + 1) else k) = _
  rw [if_pos h]
theorem nwS_bd (M : sx_M0) : ∀ n k, k ≤ nwS M n k ∧ nwS M n k ≤ k + n
  | 0, k => by simp [nwS]
  | n + 1, k => by
    unfold nwS
    have := nwS_bd M n (k + 1)
    split <;> omega
set_option maxRecDepth 100000 in
set_option maxHeartbeats 4000000 in
theorem ct_Se_isUsable (l : Launch) (D : va_G) (tc : Nat → ClassId) (M : sx_M0) (hV : sv M) (p : Nat) (hp : p < 5) : sx_Met SC l D tc y_Se_isUsable w_Se_isUsable (rmk 0 0) [sx_A (17), sx_I (((p : Nat) : Int))] GL M (fun r G' M' => G' = GL ∧ M' = M ∧ bz ((jS M).2.2.2.2.2.testBit p = true) r) := by
  refine sx_enter (by decide) rfl (Nat.le_of_ble_eq_true rfl) (Ts := g_tbl) (fun _ h => List.mem_cons_of_mem _ h) (fun E C Rr hnm hnL => ?_)
  refine sx_aload_n C 0 d_Se_isUsable_0 rfl rfl ?_
  refine sx_geti C f_Se_56 (by decide) rfl d_Se_isUsable_1 ?_
  refine sx_iload_n C 1 d_Se_isUsable_4 rfl rfl ?_
  refine sx_ishr C d_Se_isUsable_5 ?_
  refine sx_iconst C d_Se_isUsable_6 ?_
  refine sx_iand C d_Se_isUsable_7 ?_
  have hv := bit_u (M 17 12) p (hV.2.2.2.2.2.1.1) (hV.2.2.2.2.2.1.2) hp
  generalize (sx_and (sx_shr (M 17 12) ((p : Nat) : Int)) 1) = v at hv ⊢
  refine sx_iconst C d_Se_isUsable_8 ?_
  refine sx_icmp_ne C 16 ⟨by omega, by omega⟩ ⟨by omega, by omega⟩ d_Se_isUsable_9 (by decide) (fun c9 => ?_) (fun c9 => ?_)
  · refine sx_iconst C d_Se_isUsable_16 ?_
    refine sx_zreturn C Rr (by omega) rfl d_Se_isUsable_17 ?_
    exact ⟨rfl, rfl, 0, rfl, Or.inr ⟨rfl, by rcases hv with ⟨q1, q2⟩ | ⟨q1, q2⟩; omega; exact fun z => by (have z2 : (M 17 12).toNat.testBit p = true := z); rw [q2] at z2; cases z2⟩⟩
  · refine sx_iconst C d_Se_isUsable_12 ?_
    refine sx_goto C 17 d_Se_isUsable_13 (by decide) ?_
    refine sx_zreturn C Rr (by omega) rfl d_Se_isUsable_17 ?_
    exact ⟨rfl, rfl, 1, rfl, Or.inl ⟨rfl, by rcases hv with ⟨q1, q2⟩ | ⟨q1, q2⟩; exact q2; omega⟩⟩
set_option maxRecDepth 100000 in
set_option maxHeartbeats 4000000 in
theorem lp_Se_nextWithNeed  (M : sx_M0) (hV : sv M) (k : Nat) {E : sx_E} (C : sx_C SC g_tbl "SiteChoice$Search" c_Se_nextWithNeed E) (Rr : sx_Ret SC (some .int) (rmk 0 0) (fun r G' M' => G' = GL ∧ M' = M ∧ r = some (sx_I ((nwS M ((M 17 0).toNat - k) k : Nat) : Int))) E) (hnL : sx_nL E = 3) : ∀ (nF : Nat) (e : Nat), (M 17 0).toNat - e < nF → nwS M ((M 17 0).toNat - k) k = nwS M ((M 17 0).toNat - e) e → e ≤ (M 17 0).toNat → sx_X SC E (0, 0) GL M 2 [(2, sx_I (((e : Nat) : Int))), (0, sx_A (17)), (1, sx_I (((k : Nat) : Int)))] [] := by
  intro nF
  induction nF with
  | zero => intro e h; omega
  | succ nF ih =>
    intro e hn h1 h2
    have g0 := hV.1
    refine sx_iload_n C 0 d_Se_nextWithNeed_2 rfl rfl ?_
    refine sx_aload_n C 1 d_Se_nextWithNeed_3 rfl rfl ?_
    refine sx_geti C f_Se_9 (by decide) rfl d_Se_nextWithNeed_4 ?_
    refine sx_icmp_ge C 27 ⟨by omega, by omega⟩ ⟨by omega, by omega⟩ d_Se_nextWithNeed_7 (by decide) (fun c7 => ?_) (fun c7 => ?_)
    · refine sx_iload_n C 0 d_Se_nextWithNeed_27 rfl rfl ?_
      refine sx_ireturn C Rr rfl d_Se_nextWithNeed_28 ?_
      exact ⟨rfl, rfl, by rw [h1]; congr 3; rw [show (M 17 0).toNat - e = 0 by omega]; rfl⟩
    · have hN := hV.2.2.1 e (by omega)
      refine sx_aload_n C 1 d_Se_nextWithNeed_10 rfl rfl ?_
      refine sx_getr C f_Se_18 18 (by decide) rfl rfl d_Se_nextWithNeed_11 ?_
      refine sx_iload_n C 0 d_Se_nextWithNeed_14 rfl rfl ?_
      refine sx_laload C e (by decide) rfl rfl rfl (by omega) (by decide) d_Se_nextWithNeed_15 ?_
      refine sx_lconst C 0 rfl d_Se_nextWithNeed_16 ?_
      refine sx_lcmp_ne C 27 ⟨by omega, by omega⟩ ⟨by omega, by omega⟩ d_Se_nextWithNeed_17 d_Se_nextWithNeed_18 (by decide) (fun c18 => ?_) (fun c18 => ?_)
      · refine sx_iload_n C 0 d_Se_nextWithNeed_27 rfl rfl ?_
        refine sx_ireturn C Rr rfl d_Se_nextWithNeed_28 ?_
        exact ⟨rfl, rfl, by rw [h1]; congr 3; rw [show (M 17 0).toNat - e = (M 17 0).toNat - (e + 1) + 1 by omega]; unfold nwS; rw [if_neg c18]⟩
      · refine sx_iinc (lv' := [(2, sx_I (((e + 1 : Nat) : Int))), (0, sx_A (17)), (1, sx_I (((k : Nat) : Int)))]) C 0 d_Se_nextWithNeed_21 rfl (by rw [hnL]; decide) rfl ?_
        refine sx_goto C 2 d_Se_nextWithNeed_24 (by decide) ?_
        refine sx_sub [0, 1, 2] rfl ?_
        exact ih (e + 1) (by omega) (by rw [h1]; have hz : M 18 e = 0 := c18; rw [show (M 17 0).toNat - e = (M 17 0).toNat - (e + 1) + 1 by omega]; rw [nwS_z hz]) (by omega)
set_option maxRecDepth 100000 in
set_option maxHeartbeats 4000000 in
theorem ct_Se_nextWithNeed (l : Launch) (D : va_G) (tc : Nat → ClassId) (M : sx_M0) (hV : sv M) (k : Nat) (hk : k ≤ (M 17 0).toNat) : sx_Met SC l D tc y_Se_nextWithNeed w_Se_nextWithNeed (rmk 0 0) [sx_A (17), sx_I (((k : Nat) : Int))] GL M (fun r G' M' => G' = GL ∧ M' = M ∧ r = some (sx_I ((nwS M ((M 17 0).toNat - k) k : Nat) : Int))) := by
  refine sx_enter (by decide) rfl (Nat.le_of_ble_eq_true rfl) (Ts := g_tbl) (fun _ h => List.mem_cons_of_mem _ h) (fun E C Rr hnm hnL => ?_)
  refine sx_iload_n C 1 d_Se_nextWithNeed_0 rfl rfl ?_
  refine sx_istore_n (lv' := [(2, sx_I (((k : Nat) : Int))), (0, sx_A (17)), (1, sx_I (((k : Nat) : Int)))]) C d_Se_nextWithNeed_1 rfl (by rw [hnL]; decide) rfl ?_
  refine sx_sub [0, 1, 2] rfl ?_
  exact lp_Se_nextWithNeed M hV k C Rr hnL _ k (Nat.lt_succ_self _) rfl hk
set_option maxRecDepth 100000 in
set_option maxHeartbeats 4000000 in
theorem ct_Se_isHopeless (l : Launch) (D : va_G) (tc : Nat → ClassId) (M : sx_M0) (hV : sv M) (x : Int) (hx : sx_r64 x) : sx_Met SC l D tc y_Se_isHopeless w_Se_isHopeless (rmk 0 0) [sx_A (17), sx_J (x)] GL M (fun r G' M' => G' = GL ∧ M' = M ∧ bz (M 17 11 ≠ -1 ∧ (M 17 13 = 1 ∨ M 17 11 ≤ x)) r) := by
  refine sx_enter (by decide) rfl (Nat.le_of_ble_eq_true rfl) (Ts := g_tbl) (fun _ h => List.mem_cons_of_mem _ h) (fun E C Rr hnm hnL => ?_)
  have q1 := hV.2.2.2.2.2.2.1
  have q2 := hV.2.2.2.2.2.2.2.2
  refine sx_aload_n C 0 d_Se_isHopeless_0 rfl rfl ?_
  refine sx_getl C f_Se_52 (by decide) rfl d_Se_isHopeless_1 ?_
  refine sx_ldc2 (v := (-1)) C (-1) (tb_ 95 (by decide +kernel) rfl) (by decide) d_Se_isHopeless_4 ?_
  refine sx_lcmp_eq C 31 ⟨by omega, by omega⟩ ⟨by omega, by omega⟩ d_Se_isHopeless_7 d_Se_isHopeless_8 (by decide) (fun c8 => ?_) (fun c8 => ?_)
  · refine sx_iconst C d_Se_isHopeless_31 ?_
    refine sx_zreturn C Rr (by omega) rfl d_Se_isHopeless_32 ?_
    exact ⟨rfl, rfl, 0, rfl, Or.inr ⟨rfl, by omega⟩⟩
  · refine sx_aload_n C 0 d_Se_isHopeless_11 rfl rfl ?_
    refine sx_getz C f_Se_59 (by decide) rfl d_Se_isHopeless_12 ?_
    refine sx_if_ne C 27 ⟨by omega, by omega⟩ d_Se_isHopeless_15 (by decide) (fun c15 => ?_) (fun c15 => ?_)
    · refine sx_iconst C d_Se_isHopeless_27 ?_
      refine sx_goto C 32 d_Se_isHopeless_28 (by decide) ?_
      refine sx_zreturn C Rr (by omega) rfl d_Se_isHopeless_32 ?_
      exact ⟨rfl, rfl, 1, rfl, Or.inl ⟨rfl, by omega⟩⟩
    · refine sx_lload_n C 1 d_Se_isHopeless_18 rfl rfl ?_
      refine sx_aload_n C 0 d_Se_isHopeless_19 rfl rfl ?_
      refine sx_getl C f_Se_52 (by decide) rfl d_Se_isHopeless_20 ?_
      refine sx_lcmp_lt C 31 ⟨by omega, by omega⟩ ⟨by omega, by omega⟩ d_Se_isHopeless_23 d_Se_isHopeless_24 (by decide) (fun c24 => ?_) (fun c24 => ?_)
      · refine sx_iconst C d_Se_isHopeless_31 ?_
        refine sx_zreturn C Rr (by omega) rfl d_Se_isHopeless_32 ?_
        exact ⟨rfl, rfl, 0, rfl, Or.inr ⟨rfl, by omega⟩⟩
      · refine sx_iconst C d_Se_isHopeless_27 ?_
        refine sx_goto C 32 d_Se_isHopeless_28 (by decide) ?_
        refine sx_zreturn C Rr (by omega) rfl d_Se_isHopeless_32 ?_
        exact ⟨rfl, rfl, 1, rfl, Or.inl ⟨rfl, by omega⟩⟩
set_option maxRecDepth 100000 in
set_option maxHeartbeats 4000000 in
theorem ct_Se_canTake (l : Launch) (D : va_G) (tc : Nat → ClassId) (M : sx_M0) (hV : sv M) (hl : ∀ p, p < 5 → -1000 ≤ M 30 p ∧ M 30 p ≤ 1000) (p d : Nat) (hp : p < 5) (hd : d < 6) : sx_Met SC l D tc y_Se_canTake w_Se_canTake (rmk 1 40) [sx_A (17), sx_I (((p : Nat) : Int)), sx_I (((d : Nat) : Int))] GL M (fun r G' M' => G' = GL ∧ M' = M ∧ bz ((jS M).2.2.2.2.2.testBit p = true ∧ M (20 + 1 + d) p ≠ -1 ∧ M 18 d ≤ M 30 p) r) := by
  refine sx_enter (by decide) rfl (Nat.le_of_ble_eq_true rfl) (Ts := g_tbl) (fun _ h => List.mem_cons_of_mem _ h) (fun E C Rr hnm hnL => ?_)
  refine sx_aload_n C 0 d_Se_canTake_0 rfl rfl ?_
  refine sx_iload_n C 1 d_Se_canTake_1 rfl rfl ?_
  refine sx_callV (n := 71) (As := [sx_I (((p : Nat) : Int))]) (st := []) C (ct_Se_isUsable _ _ _ M hV p (by omega)) rfl (by decide) rfl (cv_Se_134 E C _ (by rw [Rr.2.2]; decide)) (Nat.le_of_ble_eq_true rfl) d_Se_canTake_2 (by rw [Rr.2.2]; decide) (by decide) rfl rfl rfl (fun r2 G2 M2 hpo _ => ?_)
  obtain ⟨e1, e2, b2, rfl, hb2⟩ := hpo
  rw [e1, e2]
  show sx_X SC E (0, 0) GL M 5 [(0, sx_A (17)), (1, sx_I (((p : Nat) : Int))), (2, sx_I (((d : Nat) : Int)))] [sx_I (b2)]
  refine sx_if_eq C 43 ⟨by omega, by omega⟩ d_Se_canTake_5 (by decide) (fun c5 => ?_) (fun c5 => ?_)
  · refine sx_iconst C d_Se_canTake_43 ?_
    refine sx_zreturn C Rr (by omega) rfl d_Se_canTake_44 ?_
    exact ⟨rfl, rfl, 0, rfl, Or.inr ⟨rfl, by rintro ⟨z1, z2, z3⟩; first | omega | (rcases hb2 with ⟨q1, q2⟩ | ⟨q1, q2⟩; omega; exact q2 z1)⟩⟩
  · have hR := hV.2.2.2.1 d p hd hp
    have hN := hV.2.2.1 d hd
    have hL := hl p hp
    refine sx_aload_n C 0 d_Se_canTake_8 rfl rfl ?_
    refine sx_getr C f_Se_27 20 (by decide) rfl rfl d_Se_canTake_9 ?_
    refine sx_iload_n C 2 d_Se_canTake_12 rfl rfl ?_
    refine sx_aaload C d (20 + 1 + d) (by decide) rfl rfl rfl (by omega) (by decide) (if_pos (by omega)) d_Se_canTake_13 ?_
    refine sx_iload_n C 1 d_Se_canTake_14 rfl rfl ?_
    refine sx_laload C p (by show (20 + 1 + d) < 71; omega) (gl_20 _ (by omega)) rfl rfl (by omega) (by decide) d_Se_canTake_15 ?_
    refine sx_ldc2 (v := (-1)) C (-1) (tb_ 95 (by decide +kernel) rfl) (by decide) d_Se_canTake_16 ?_
    refine sx_lcmp_eq C 43 ⟨by omega, by omega⟩ ⟨by omega, by omega⟩ d_Se_canTake_19 d_Se_canTake_20 (by decide) (fun c20 => ?_) (fun c20 => ?_)
    · refine sx_iconst C d_Se_canTake_43 ?_
      refine sx_zreturn C Rr (by omega) rfl d_Se_canTake_44 ?_
      exact ⟨rfl, rfl, 0, rfl, Or.inr ⟨rfl, by rintro ⟨z1, z2, z3⟩; first | omega | (rcases hb2 with ⟨q1, q2⟩ | ⟨q1, q2⟩; omega; exact q2 z1)⟩⟩
    · refine sx_aload_n C 0 d_Se_canTake_23 rfl rfl ?_
      refine sx_getr C f_Se_40 30 (by decide) rfl rfl d_Se_canTake_24 ?_
      refine sx_iload_n C 1 d_Se_canTake_27 rfl rfl ?_
      refine sx_laload C p (by decide) rfl rfl rfl (by omega) (by decide) d_Se_canTake_28 ?_
      refine sx_aload_n C 0 d_Se_canTake_29 rfl rfl ?_
      refine sx_getr C f_Se_18 18 (by decide) rfl rfl d_Se_canTake_30 ?_
      refine sx_iload_n C 2 d_Se_canTake_33 rfl rfl ?_
      refine sx_laload C d (by decide) rfl rfl rfl (by omega) (by decide) d_Se_canTake_34 ?_
      refine sx_lcmp_lt C 43 ⟨by omega, by omega⟩ ⟨by omega, by omega⟩ d_Se_canTake_35 d_Se_canTake_36 (by decide) (fun c36 => ?_) (fun c36 => ?_)
      · refine sx_iconst C d_Se_canTake_43 ?_
        refine sx_zreturn C Rr (by omega) rfl d_Se_canTake_44 ?_
        exact ⟨rfl, rfl, 0, rfl, Or.inr ⟨rfl, by rintro ⟨z1, z2, z3⟩; first | omega | (rcases hb2 with ⟨q1, q2⟩ | ⟨q1, q2⟩; omega; exact q2 z1)⟩⟩
      · refine sx_iconst C d_Se_canTake_39 ?_
        refine sx_goto C 44 d_Se_canTake_40 (by decide) ?_
        refine sx_zreturn C Rr (by omega) rfl d_Se_canTake_44 ?_
        exact ⟨rfl, rfl, 1, rfl, Or.inl ⟨rfl, by rcases hb2 with ⟨q1, q2⟩ | ⟨q1, q2⟩; exact ⟨q2, c20, by omega⟩; omega⟩⟩
def kbS (M : sx_M0) (x : Int) : sx_M0 := if M 17 11 = -1 ∨ x < M 17 11 then sx_cpy (sx_up M 17 11 x) 31 32 0 0 6 else M
set_option maxRecDepth 100000 in
set_option maxHeartbeats 4000000 in
theorem ct_Se_keepIfBetter (l : Launch) (D : va_G) (tc : Nat → ClassId) (M : sx_M0) (hV : sv M) (x : Int) (hx : sx_r64 x) : sx_Met SC l D tc y_Se_keepIfBetter w_Se_keepIfBetter (rmk 1 40) [sx_A (17), sx_J (x)] GL M (fun r G' M' => G' = GL ∧ M' = kbS M x ∧ r = none) := by
  refine sx_enter (by decide) rfl (Nat.le_of_ble_eq_true rfl) (Ts := g_tbl) (fun _ h => List.mem_cons_of_mem _ h) (fun E C Rr hnm hnL => ?_)
  have q2 := hV.2.2.2.2.2.2.2.2
  refine sx_aload_n C 0 d_Se_keepIfBetter_0 rfl rfl ?_
  refine sx_getl C f_Se_52 (by decide) rfl d_Se_keepIfBetter_1 ?_
  refine sx_ldc2 (v := (-1)) C (-1) (tb_ 95 (by decide +kernel) rfl) (by decide) d_Se_keepIfBetter_4 ?_
  refine sx_lcmp_eq C 20 ⟨by omega, by omega⟩ ⟨by omega, by omega⟩ d_Se_keepIfBetter_7 d_Se_keepIfBetter_8 (by decide) (fun c8 => ?_) (fun c8 => ?_)
  · refine sx_aload_n C 0 d_Se_keepIfBetter_20 rfl rfl ?_
    refine sx_lload_n C 1 d_Se_keepIfBetter_21 rfl rfl ?_
    refine sx_putl C p_Se_52 (by decide) rfl d_Se_keepIfBetter_22 ?_
    refine sx_aload_n C 0 d_Se_keepIfBetter_25 rfl rfl ?_
    refine sx_getr C f_Se_43 31 (by decide) rfl rfl d_Se_keepIfBetter_26 ?_
    refine sx_iconst C d_Se_keepIfBetter_29 ?_
    refine sx_aload_n C 0 d_Se_keepIfBetter_30 rfl rfl ?_
    refine sx_getr C f_Se_47 32 (by decide) rfl rfl d_Se_keepIfBetter_31 ?_
    refine sx_iconst C d_Se_keepIfBetter_34 ?_
    refine sx_bipush C d_Se_keepIfBetter_35 (by decide) ?_
    refine sx_copyI (sp := 0) (dp := 0) (n := 6) C (by decide) rfl (by decide) rfl rfl rfl rfl rfl (by decide) (by decide) (by decide) (by decide) (tb_ 343 (by decide +kernel) rfl) (tb_ 345 (by decide +kernel) rfl) (tb_ 344 (by decide +kernel) rfl) (tb_ 10 (by decide +kernel) rfl) (by rw [Rr.2.2]; decide) (by rw [Rr.2.2]; decide) d_Se_keepIfBetter_37 ?_
    refine sx_return C Rr rfl d_Se_keepIfBetter_40 ?_
    exact ⟨rfl, by rw [kbS, if_pos (by omega)], rfl⟩
  · refine sx_lload_n C 1 d_Se_keepIfBetter_11 rfl rfl ?_
    refine sx_aload_n C 0 d_Se_keepIfBetter_12 rfl rfl ?_
    refine sx_getl C f_Se_52 (by decide) rfl d_Se_keepIfBetter_13 ?_
    refine sx_lcmp_ge C 40 ⟨by omega, by omega⟩ ⟨by omega, by omega⟩ d_Se_keepIfBetter_16 d_Se_keepIfBetter_17 (by decide) (fun c17 => ?_) (fun c17 => ?_)
    · refine sx_return C Rr rfl d_Se_keepIfBetter_40 ?_
      exact ⟨rfl, by rw [kbS, if_neg (by omega)], rfl⟩
    · refine sx_aload_n C 0 d_Se_keepIfBetter_20 rfl rfl ?_
      refine sx_lload_n C 1 d_Se_keepIfBetter_21 rfl rfl ?_
      refine sx_putl C p_Se_52 (by decide) rfl d_Se_keepIfBetter_22 ?_
      refine sx_aload_n C 0 d_Se_keepIfBetter_25 rfl rfl ?_
      refine sx_getr C f_Se_43 31 (by decide) rfl rfl d_Se_keepIfBetter_26 ?_
      refine sx_iconst C d_Se_keepIfBetter_29 ?_
      refine sx_aload_n C 0 d_Se_keepIfBetter_30 rfl rfl ?_
      refine sx_getr C f_Se_47 32 (by decide) rfl rfl d_Se_keepIfBetter_31 ?_
      refine sx_iconst C d_Se_keepIfBetter_34 ?_
      refine sx_bipush C d_Se_keepIfBetter_35 (by decide) ?_
      refine sx_copyI (sp := 0) (dp := 0) (n := 6) C (by decide) rfl (by decide) rfl rfl rfl rfl rfl (by decide) (by decide) (by decide) (by decide) (tb_ 343 (by decide +kernel) rfl) (tb_ 345 (by decide +kernel) rfl) (tb_ 344 (by decide +kernel) rfl) (tb_ 10 (by decide +kernel) rfl) (by rw [Rr.2.2]; decide) (by rw [Rr.2.2]; decide) d_Se_keepIfBetter_37 ?_
      refine sx_return C Rr rfl d_Se_keepIfBetter_40 ?_
      exact ⟨rfl, by rw [kbS, if_pos (by omega)], rfl⟩
