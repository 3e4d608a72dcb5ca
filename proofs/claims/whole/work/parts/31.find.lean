def needC (M : sx_M0) (c : Nat) : sx_M0 := tfS M 18 (M 17 0).toNat (nsS M c (M 17 0).toNat)
/-- with the needs of the set c alone there is no plan -/
def noP (M : sx_M0) (c : Nat) : Prop := ¬ ∃ g, CP (jW (needC M c) 31) (jW (needC M c) 31).1 0 0 (M 19) g
def fF (M0 M : sx_M0) : Prop := (∀ a, a ≠ 17 → a ≠ 18 → a ≠ 29 → a ≠ 30 → a ≠ 31 → a ≠ 32 → M a = M0 a) ∧ (∀ b, b ≠ 11 → b ≠ 12 → M 17 b = M0 17 b) ∧ sv M ∧ (∀ d, (M0 17 0).toNat ≤ d → M 18 d = M0 18 d)
theorem noP_fr {M0 M : sx_M0} (h : fF M0 M) {c : Nat} : noP M c ↔ noP M0 c := by
  have e17 : M 17 0 = M0 17 0 := h.2.1 0 (by decide) (by decide)
  have e : jW (needC M c) 31 = jW (needC M0 c) 31 := by
    refine jW_fr ?_ ?_ ?_ ?_ (fun d hd => ?_)
    · show tfS M 18 _ _ 17 0 = tfS M0 18 _ _ 17 0
      rw [tfS_ne (by decide), tfS_ne (by decide), e17]
    · show tfS M 18 _ _ 17 1 = tfS M0 18 _ _ 17 1
      rw [tfS_ne (by decide), tfS_ne (by decide), h.2.1 1 (by decide) (by decide)]
    · funext d
      show tfS M 18 _ _ 18 d = tfS M0 18 _ _ 18 d
      rw [e17]
      by_cases hd : d < (M0 17 0).toNat
      · rw [tfS_lt hd, tfS_lt hd]
        unfold nsS
        rw [h.1 2 (by decide) (by decide) (by decide) (by decide) (by decide) (by decide)]
      · rw [tfS_ge hd, tfS_ge hd]
        exact h.2.2.2 d (by omega)
    · show tfS M 18 _ _ 27 = tfS M0 18 _ _ 27
      rw [tfS_ne (by decide), tfS_ne (by decide), h.1 27 (by decide) (by decide) (by decide) (by decide) (by decide) (by decide)]
    · show tfS M 18 _ _ (20 + 1 + d) = tfS M0 18 _ _ (20 + 1 + d)
      rw [tfS_ne (by omega), tfS_ne (by omega), h.1 _ (by omega) (by omega) (by omega) (by omega) (by omega) (by omega)]
  unfold noP
  rw [e, h.1 19 (by decide) (by decide) (by decide) (by decide) (by decide) (by decide)]
theorem needC_sv {M : sx_M0} (hT : tw M) (hV : sv M) {c : Nat} : sv (needC M c) := by
  have g0 := hV.1
  unfold sv at hV ⊢
  unfold needC
  rw [tfS_ne (a := 17) (by decide), tfS_ne (a := 27) (by decide), tfS_ne (a := 29) (by decide)]
  refine ⟨hV.1, hV.2.1, fun d hd => ?_, fun d p hd hp => ?_, hV.2.2.2.2⟩
  · by_cases h : d < (M 17 0).toNat
    · rw [tfS_lt h]
      unfold nsS
      have := hT.2.2.2.1 d hd
      split <;> omega
    · rw [tfS_ge h]
      exact hV.2.2.1 d hd
  · rw [tfS_ne (by omega)]
    exact hV.2.2.2.1 d p hd hp
theorem fF_step {M0 M M1 : sx_M0} {c : Nat} (h : fF M0 M) (h1 : hpF (needC M c) M1) (hV : sv M1) : fF M0 M1 := by
  have e17 : M 17 0 = M0 17 0 := h.2.1 0 (by decide) (by decide)
  refine ⟨fun a p1 p2 p3 p4 p5 p6 => ?_, fun b p1 p2 => ?_, hV, fun d hd => ?_⟩
  · rw [h1.1 a p1 p3 p4 p5 p6]
    show tfS M 18 _ _ a = _
    rw [tfS_ne p2]
    exact h.1 a p1 p2 p3 p4 p5 p6
  · rw [h1.2 b p1 p2]
    show tfS M 18 _ _ 17 b = _
    rw [tfS_ne (by decide)]
    exact h.2.1 b p1 p2
  · rw [h1.1 18 (by decide) (by decide) (by decide) (by decide) (by decide)]
    show tfS M 18 _ _ 18 d = _
    rw [tfS_ge (by omega)]
    exact h.2.2.2 d hd
def fdI (M0 M : sx_M0) (z m : Nat) : Prop := fF M0 M ∧ ∀ c, 0 < c → c < 2 ^ (M0 1 0).toNat → (bcS c < z ∨ (bcS c = z ∧ m < c)) → ¬ noP M0 c
def fdP (M M' : sx_M0) : Prop := ∃ M1, fF M M1 ∧ ((∃ c, 0 < c ∧ c < 2 ^ (M 1 0).toNat ∧ noP M c ∧ (∀ c', 0 < c' → c' < 2 ^ (M 1 0).toNat → (bcS c' < bcS c ∨ (bcS c' = bcS c ∧ c < c')) → ¬ noP M c') ∧ liI M1 M' c (M 1 0).toNat (M 1 0).toNat) ∨ ((∀ c, 0 < c → c < 2 ^ (M 1 0).toNat → ¬ noP M c) ∧ M' = M1))
theorem shl_bit7 : ∀ p, p < 7 → sx_shl 1 ((p : Nat) : Int) = ((2 ^ p : Nat) : Int) := by decide +kernel
theorem pow_7 : ∀ p, p < 7 → 2 ^ p ≤ 64 ∧ 1 ≤ 2 ^ p := by decide
theorem bc_bd : ∀ n, n < 7 → ∀ c, c < 2 ^ n → bcS c ≤ n := by decide +kernel
theorem hv_f {M0 M : sx_M0} (h : fF M0 M) (hH : hv M0) : hv M := by
  have f := h.1
  unfold hv at hH ⊢
  rw [f 33 (by decide) (by decide) (by decide) (by decide) (by decide) (by decide), f 34 (by decide) (by decide) (by decide) (by decide) (by decide) (by decide), f 35 (by decide) (by decide) (by decide) (by decide) (by decide) (by decide), f 36 (by decide) (by decide) (by decide) (by decide) (by decide) (by decide), f 37 (by decide) (by decide) (by decide) (by decide) (by decide) (by decide), f 38 (by decide) (by decide) (by decide) (by decide) (by decide) (by decide), f 0 (by decide) (by decide) (by decide) (by decide) (by decide) (by decide)]
  exact hH
set_option maxRecDepth 100000 in
set_option maxHeartbeats 4000000 in
theorem lp2_Un_find (M0 : sx_M0) (hT : tw M0) (hH : hv M0) (hR : ∀ p, p < 5 → 0 ≤ M0 19 p ∧ M0 19 p ≤ 1000) (hf0 : M0 17 13 = 0) (h17 : M0 17 0 = M0 1 0) (z : Nat) (hz : z ≤ 6) {E : sx_E} (C : sx_C SC g_tbl "SiteChoice$Unserved" c_Un_find E) (Rr : sx_Ret SC none (rmk 26 1000) (fun r G' M' => G' = GL ∧ r = none ∧ fdP M0 M') E) (hnL : sx_nL E = 6) (hk : ∀ M : sx_M0, fdI M0 M (z + 1) (2 ^ (M0 1 0).toNat) → sx_X SC E (0, 0) GL M 64 [(4, sx_I (((z : Nat) : Int))), (3, sx_I ((((M0 1 0).toNat : Nat) : Int))), (0, sx_A (35)), (1, sx_A (1)), (2, sx_A (17))] []) : ∀ (e : Nat), e < 2 ^ (M0 1 0).toNat → ∀ (M : sx_M0), fdI M0 M z e → sx_X SC E (0, 0) GL M 21 [(5, sx_I (((e : Nat) : Int))), (4, sx_I (((z : Nat) : Int))), (3, sx_I ((((M0 1 0).toNat : Nat) : Int))), (0, sx_A (35)), (1, sx_A (1)), (2, sx_A (17))] [] := by
  intro e
  induction e with
  | zero =>
    intro _ M h
    refine sx_iload C 0 d_Un_find_21 rfl ?_
    refine sx_if_le C 64 ⟨by omega, by omega⟩ d_Un_find_23 (by decide) (fun c23 => ?_) (fun c23 => ?_)
    · refine sx_sub [1, 2, 3, 4, 5] rfl ?_
      exact hk M ⟨h.1, fun c h1 h2 h3 => h.2 c h1 h2 (by omega)⟩
    · exfalso; omega
  | succ m ih =>
    intro hm M h
    replace ih := ih (by omega)
    have g0 := hT.1
    have hTM : tw M := tw_fr (fun a ha => h.1.1 a (by omega) (by omega) (by omega) (by omega) (by omega) (by omega)) hT
    have hVM := h.1.2.2.1
    have e170 : M 17 0 = M0 17 0 := h.1.2.1 0 (by decide) (by decide)
    have hRM : ∀ p, p < 5 → 0 ≤ M 19 p ∧ M 19 p ≤ 1000 := fun p hp => by rw [h.1.1 19 (by decide) (by decide) (by decide) (by decide) (by decide) (by decide)]; exact hR p hp
    have hp7 := pow_7 (M0 1 0).toNat (by omega)
    refine sx_iload C 0 d_Un_find_21 rfl ?_
    refine sx_if_le C 64 ⟨by omega, by omega⟩ d_Un_find_23 (by decide) (fun c23 => ?_) (fun c23 => ?_)
    · exfalso; omega
    · refine sx_iload C 0 d_Un_find_26 rfl ?_
      have hbc := bc_bd (M0 1 0).toNat (by omega) (m + 1) (by omega)
      refine sx_callS (n := 71) (As := [sx_I ((((m + 1) : Nat) : Int))]) (st := []) C (ct_In_bitCount _ _ _ M (m + 1) (by omega)) (cv_Un_24 E C _ (by rw [Rr.2.2]; decide)) (Nat.le_of_ble_eq_true rfl) d_Un_find_28 (by rw [Rr.2.2]; decide) (by decide) rfl rfl rfl (fun r28 G28 M28 hpo _ => ?_)
      obtain ⟨e1, e2, rfl⟩ := hpo
      rw [e1, e2]
      show sx_X SC E (0, 0) GL M 31 [(5, sx_I ((((m + 1) : Nat) : Int))), (4, sx_I (((z : Nat) : Int))), (3, sx_I ((((M0 1 0).toNat : Nat) : Int))), (0, sx_A (35)), (1, sx_A (1)), (2, sx_A (17))] [sx_I (((bcS (m + 1) : Nat) : Int))]
      refine sx_iload C 1 d_Un_find_31 rfl ?_
      refine sx_icmp_ne C 58 ⟨by omega, by omega⟩ ⟨by omega, by omega⟩ d_Un_find_33 (by decide) (fun c33 => ?_) (fun c33 => ?_)
      · refine sx_iinc (lv' := [(5, sx_I ((((m + 1) : Nat) : Int) + (-1))), (4, sx_I (((z : Nat) : Int))), (3, sx_I ((((M0 1 0).toNat : Nat) : Int))), (0, sx_A (35)), (1, sx_A (1)), (2, sx_A (17))]) C 0 d_Un_find_58 rfl (by rw [hnL]; decide) rfl ?_
        refine sx_goto C 21 d_Un_find_61 (by decide) ?_
        refine sx_sub [0, 1, 2, 3, 4, 5] rfl ?_
        rw [show (((m + 1 : Nat) : Nat) : Int) + (-1) = ((m : Nat) : Int) by omega]
        exact ih M ⟨h.1, fun c h1 h2 h3 => by by_cases e : c = m + 1; (subst e; exact h.2 _ h1 h2 (by omega)); exact h.2 c h1 h2 (by omega)⟩
      · refine sx_aload_n C 5 d_Un_find_36 rfl rfl ?_
        refine sx_aload_n C 4 d_Un_find_37 rfl rfl ?_
        refine sx_iload C 0 d_Un_find_38 rfl ?_
        refine sx_callV (n := 71) (As := [sx_A (1), sx_I ((((m + 1) : Nat) : Int))]) (st := []) C (ct_Se_loadNeedsOfSet _ _ _ M hTM hVM.1 (m + 1) (by omega)) rfl (by decide) rfl (cv_Un_30 E C _ (by rw [Rr.2.2]; decide)) (Nat.le_of_ble_eq_true rfl) d_Un_find_40 (by rw [Rr.2.2]; decide) (by decide) rfl rfl rfl (fun r40 G40 M40 hpo _ => ?_)
        obtain ⟨e1, e2, rfl⟩ := hpo
        rw [e1, e2]
        show sx_X SC E (0, 0) GL (needC M (m + 1)) 43 [(5, sx_I ((((m + 1) : Nat) : Int))), (4, sx_I (((z : Nat) : Int))), (3, sx_I ((((M0 1 0).toNat : Nat) : Int))), (0, sx_A (35)), (1, sx_A (1)), (2, sx_A (17))] []
        refine sx_aload_n C 5 d_Un_find_43 rfl rfl ?_
        refine sx_callV (n := 71) (As := []) (st := []) C (ct_Se_hasPlan _ _ _ (needC M (m + 1)) (needC_sv hTM hVM) (by show tfS M 18 _ _ 17 13 = 0; rw [tfS_ne (by decide), h.1.2.1 13 (by decide) (by decide)]; exact hf0) (fun p hp => by show 0 ≤ tfS M 18 _ _ 19 p ∧ tfS M 18 _ _ 19 p ≤ 1000; rw [tfS_ne (by decide)]; exact hRM p hp)) rfl (by decide) rfl (cv_Un_36 E C _ (by rw [Rr.2.2]; decide)) (Nat.le_of_ble_eq_true rfl) d_Un_find_44 (by rw [Rr.2.2]; decide) (by decide) rfl rfl rfl (fun r44 G44 M44 hpo _ => ?_)
        obtain ⟨e1, q43, s43, b43, rfl, hb43⟩ := hpo
        rw [e1]
        show sx_X SC E (0, 0) GL M44 47 [(5, sx_I ((((m + 1) : Nat) : Int))), (4, sx_I (((z : Nat) : Int))), (3, sx_I ((((M0 1 0).toNat : Nat) : Int))), (0, sx_A (35)), (1, sx_A (1)), (2, sx_A (17))] [sx_I (b43)]
        refine sx_if_ne C 58 ⟨by omega, by omega⟩ d_Un_find_47 (by decide) (fun c47 => ?_) (fun c47 => ?_)
        · refine sx_iinc (lv' := [(5, sx_I ((((m + 1) : Nat) : Int) + (-1))), (4, sx_I (((z : Nat) : Int))), (3, sx_I ((((M0 1 0).toNat : Nat) : Int))), (0, sx_A (35)), (1, sx_A (1)), (2, sx_A (17))]) C 0 d_Un_find_58 rfl (by rw [hnL]; decide) rfl ?_
          refine sx_goto C 21 d_Un_find_61 (by decide) ?_
          refine sx_sub [0, 1, 2, 3, 4, 5] rfl ?_
          rw [show (((m + 1 : Nat) : Nat) : Int) + (-1) = ((m : Nat) : Int) by omega]
          exact ih M44 ⟨fF_step h.1 q43 s43, fun c h1 h2 h3 => by by_cases e : c = m + 1; (rw [e, ← noP_fr h.1]; unfold noP; rw [show M 19 = needC M (m + 1) 19 from (tfS_ne (by decide)).symm]; rcases hb43 with ⟨y1, y2⟩ | ⟨y1, y2⟩; exact fun y => y y2; omega); exact h.2 c h1 h2 (by omega)⟩
        · refine sx_aload_n C 3 d_Un_find_50 rfl rfl ?_
          refine sx_iload C 0 d_Un_find_51 rfl ?_
          refine sx_iload_n C 2 d_Un_find_53 rfl rfl ?_
          refine sx_callV (n := 71) (As := [sx_I ((((m + 1) : Nat) : Int)), sx_I ((((M0 1 0).toNat : Nat) : Int))]) (st := []) C (ct_Un_list _ _ _ M44 (hv_f (fF_step h.1 q43 s43) hH) (m + 1) (M0 1 0).toNat (by omega) (by omega)) rfl (by decide) rfl (cv_Un_40 E C _ (by rw [Rr.2.2]; decide)) (Nat.le_of_ble_eq_true rfl) d_Un_find_54 (by rw [Rr.2.2]; decide) (by decide) rfl rfl rfl (fun r54 G54 M54 hpo _ => ?_)
          obtain ⟨e1, rfl, h54⟩ := hpo
          rw [e1]
          show sx_X SC E (0, 0) GL M54 57 [(5, sx_I ((((m + 1) : Nat) : Int))), (4, sx_I (((z : Nat) : Int))), (3, sx_I ((((M0 1 0).toNat : Nat) : Int))), (0, sx_A (35)), (1, sx_A (1)), (2, sx_A (17))] []
          refine sx_return C Rr rfl d_Un_find_57 ?_
          refine ⟨rfl, rfl, M44, fF_step h.1 q43 s43, Or.inl ⟨m + 1, by omega, by omega, ?_, fun c h1 h2 h3 => h.2 c h1 h2 (by omega), h54⟩⟩
          rw [← noP_fr h.1]
          unfold noP
          rw [show M 19 = needC M (m + 1) 19 from (tfS_ne (by decide)).symm]
          rcases hb43 with ⟨y1, y2⟩ | ⟨y1, y2⟩
          · omega
          · exact y2
set_option maxRecDepth 100000 in
set_option maxHeartbeats 4000000 in
theorem lp_Un_find  (M0 : sx_M0) (hT : tw M0) (hH : hv M0) (hR : ∀ p, p < 5 → 0 ≤ M0 19 p ∧ M0 19 p ≤ 1000) (hf0 : M0 17 13 = 0) (h17 : M0 17 0 = M0 1 0) {E : sx_E} (C : sx_C SC g_tbl "SiteChoice$Unserved" c_Un_find E) (Rr : sx_Ret SC none (rmk 26 1000) (fun r G' M' => G' = GL ∧ r = none ∧ fdP M0 M') E) (hnL : sx_nL E = 6) : ∀ (nF : Nat) (z : Nat) (M : sx_M0), (M0 1 0).toNat + 1 - z < nF → fdI M0 M z (2 ^ (M0 1 0).toNat) → 1 ≤ z ∧ z ≤ (M0 1 0).toNat + 1 → sx_X SC E (0, 0) GL M 8 [(4, sx_I (((z : Nat) : Int))), (3, sx_I ((((M0 1 0).toNat : Nat) : Int))), (0, sx_A (35)), (1, sx_A (1)), (2, sx_A (17))] [] := by
  intro nF
  induction nF with
  | zero => intro z M h; omega
  | succ nF ih =>
    intro z M hn h h2
    have g0 := hT.1
    have hp7 := pow_7 (M0 1 0).toNat (by omega)
    refine sx_iload C 0 d_Un_find_8 rfl ?_
    refine sx_iload_n C 1 d_Un_find_10 rfl rfl ?_
    refine sx_icmp_gt C 70 ⟨by omega, by omega⟩ ⟨by omega, by omega⟩ d_Un_find_11 (by decide) (fun c11 => ?_) (fun c11 => ?_)
    · refine sx_return C Rr rfl d_Un_find_70 ?_
      exact ⟨rfl, rfl, M, h.1, Or.inr ⟨fun c h1 h2 => h.2 c h1 h2 (by have := bc_bd (M0 1 0).toNat (by omega) c h2; omega), rfl⟩⟩
    · refine sx_iconst C d_Un_find_14 ?_
      refine sx_iload_n C 1 d_Un_find_15 rfl rfl ?_
      refine sx_ishl C d_Un_find_16 ?_
      rw [shl_bit7 (M0 1 0).toNat (by omega)]
      refine sx_iconst C d_Un_find_17 ?_
      refine sx_isub C d_Un_find_18 ?_
      rw [show ((2 ^ (M0 1 0).toNat : Nat) : Int) - 1 = ((2 ^ (M0 1 0).toNat - 1 : Nat) : Int) by omega]
      refine sx_istore (lv' := [(5, sx_I (((2 ^ (M0 1 0).toNat - 1 : Nat) : Int))), (4, sx_I (((z : Nat) : Int))), (3, sx_I ((((M0 1 0).toNat : Nat) : Int))), (0, sx_A (35)), (1, sx_A (1)), (2, sx_A (17))]) C d_Un_find_19 (by rw [hnL]; decide) rfl ?_
      refine sx_sub [0, 1, 2, 3, 4, 5] rfl ?_
      refine lp2_Un_find M0 hT hH hR hf0 h17 z (by omega) C Rr hnL (fun M2 hx2 => ?_) (2 ^ (M0 1 0).toNat - 1) (by omega) M ⟨h.1, fun c h1 h2 h3 => h.2 c h1 h2 (by omega)⟩
      refine sx_iinc (lv' := [(4, sx_I (((z + 1 : Nat) : Int))), (3, sx_I ((((M0 1 0).toNat : Nat) : Int))), (0, sx_A (35)), (1, sx_A (1)), (2, sx_A (17))]) C 0 d_Un_find_64 rfl (by rw [hnL]; decide) rfl ?_
      refine sx_goto C 8 d_Un_find_67 (by decide) ?_
      refine sx_sub [0, 1, 2, 3, 4] rfl ?_
      exact ih (z + 1) M2 (by omega) hx2 (by omega)
theorem bc_pos : ∀ c, c < 64 → 0 < c → 0 < bcS c := by decide +kernel
set_option maxRecDepth 100000 in
set_option maxHeartbeats 4000000 in
theorem ct_Un_find (l : Launch) (D : va_G) (tc : Nat → ClassId) (M : sx_M0) (hT : tw M) (hV : sv M) (hH : hv M) (hR : ∀ p, p < 5 → 0 ≤ M 19 p ∧ M 19 p ≤ 1000) (hf0 : M 17 13 = 0) (h17 : M 17 0 = M 1 0) : sx_Met SC l D tc y_Un_find w_Un_find (rmk 26 1000) [sx_A (35), sx_A (1), sx_A (17)] GL M (fun r G' M' => G' = GL ∧ r = none ∧ fdP M M') := by
  refine sx_enter (by decide) rfl (Nat.le_of_ble_eq_true rfl) (Ts := g_tbl) (fun _ h => List.mem_cons_of_mem _ h) (fun E C Rr hnm hnL => ?_)
  have g0 := hT.1
  refine sx_aload_n C 1 d_Un_find_0 rfl rfl ?_
  refine sx_geti C f_Un_19 (by decide) rfl d_Un_find_1 ?_
  rw [show M 1 0 = (((M 1 0).toNat : Nat) : Int) by omega]
  refine sx_istore_n (lv' := [(3, sx_I ((((M 1 0).toNat : Nat) : Int))), (0, sx_A (35)), (1, sx_A (1)), (2, sx_A (17))]) C d_Un_find_4 rfl (by rw [hnL]; decide) rfl ?_
  refine sx_iconst C d_Un_find_5 ?_
  refine sx_istore (lv' := [(4, sx_I (1)), (3, sx_I ((((M 1 0).toNat : Nat) : Int))), (0, sx_A (35)), (1, sx_A (1)), (2, sx_A (17))]) C d_Un_find_6 (by rw [hnL]; decide) rfl ?_
  refine sx_sub [0, 1, 2, 3, 4] rfl ?_
  exact lp_Un_find M hT hH hR hf0 h17 C Rr hnL _ 1 M (Nat.lt_succ_self _) ⟨⟨fun _ _ _ _ _ _ _ => rfl, fun _ _ _ => rfl, hV, fun _ _ => rfl⟩, fun c h1 h2 h3 => by exfalso; rcases h3 with y | y; (have := bc_pos c (by have := pow_7 (M 1 0).toNat (by omega); omega) h1; omega); omega⟩ ⟨Nat.le_refl 1, by omega⟩
