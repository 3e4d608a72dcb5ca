def fY (M0 M : sx_M0) : Prop := (∀ a, a ≠ 17 → a ≠ 18 → a ≠ 29 → a ≠ 30 → a ≠ 31 → a ≠ 32 → (a < 40 ∨ 46 ≤ a) → M a = M0 a) ∧ (∀ b, b ≠ 11 → b ≠ 12 → M 17 b = M0 17 b) ∧ sv M ∧ (∀ d, (M0 17 0).toNat ≤ d → M 18 d = M0 18 d)
def nY (M0 : sx_M0) (y : Nat) : sx_M0 := tfS M0 18 (M0 17 0).toNat (nyS M0 y)
def ysP (M0 : sx_M0) (y s : Nat) (x : Int) : Prop := (-1 ≤ x ∧ x ≤ 100000000) ∧ ((M0 27 s = 1 ∧ ∃ bg, bstP (jW (nY M0 y) s) (M0 19) 0 x bg) ∨ (M0 27 s = 0 ∧ x = -1))
def rsO (M0 M : sx_M0) (n y : Nat) : Prop := fY M0 M ∧ (∀ y' s', y' < y → s' < n → ysP M0 y' s' (M (39 + 1 + y') s'))
def rsN (M0 M : sx_M0) (n y s : Nat) : Prop := rsO M0 M n y ∧ (∀ s', s' < s → ysP M0 y s' (M (39 + 1 + y) s')) ∧ M 18 = nY M0 y 18
theorem rs_load {M0 M : sx_M0} {n y : Nat} (hT : tw M0) (hV0 : sv M0) (hy : y < 6) (h : rsO M0 M n y) : rsN M0 (nY M y) n y 0 := by
  have e17 : M 17 0 = M0 17 0 := h.1.2.1 0 (by decide) (by decide)
  have hV := h.1.2.2.1
  have e2 : M 2 = M0 2 := h.1.1 2 (by decide) (by decide) (by decide) (by decide) (by decide) (by decide) (Or.inl (by decide))
  have hs : sv (nY M y) := by
    have g0 := hV.1
    unfold sv at hV ⊢
    unfold nY
    rw [tfS_ne (a := 17) (by decide), tfS_ne (a := 27) (by decide), tfS_ne (a := 29) (by decide)]
    refine ⟨hV.1, hV.2.1, fun d hd => ?_, fun d p hd hp => ?_, hV.2.2.2.2⟩
    · by_cases h : d < (M 17 0).toNat
      · rw [tfS_lt h]
        unfold nyS
        have q := hT.2.2.2.1 d hd
        rw [e2]
        have := ny_bd (x := M0 2 d) (y := (y : Int)) q.1 q.2 (by omega) (by omega)
        omega
      · rw [tfS_ge h]
        exact hV.2.2.1 d hd
    · rw [tfS_ne (by omega)]
      exact hV.2.2.2.1 d p hd hp
  refine ⟨⟨⟨fun a p1 p2 p3 p4 p5 p6 p7 => ?_, fun b p1 p2 => ?_, hs, fun d hd => ?_⟩, fun y' s' q1 q2 => ?_⟩, fun s' q => by omega, ?_⟩
  · show tfS M 18 _ _ a = _
    rw [tfS_ne p2]; exact h.1.1 a p1 p2 p3 p4 p5 p6 p7
  · show tfS M 18 _ _ 17 b = _
    rw [tfS_ne (by decide)]; exact h.1.2.1 b p1 p2
  · show tfS M 18 _ _ 18 d = _
    rw [tfS_ge (by omega)]; exact h.1.2.2.2 d hd
  · show ysP M0 y' s' (tfS M 18 _ _ (39 + 1 + y') s')
    rw [tfS_ne (by omega)]; exact h.2 y' s' q1 q2
  · funext d
    show tfS M 18 _ _ 18 d = tfS M0 18 _ _ 18 d
    rw [e17]
    by_cases hd : d < (M0 17 0).toNat
    · rw [tfS_lt hd, tfS_lt hd]
      unfold nyS
      rw [e2]
    · rw [tfS_ge hd, tfS_ge hd]
      exact h.1.2.2.2 d (by omega)
theorem rs_j {M0 M : sx_M0} {n y s W : Nat} (h : rsN M0 M n y s) : jW M W = jW (nY M0 y) W := by
  have f := h.1.1.1
  refine jW_fr ?_ ?_ h.2.2 ?_ (fun d hd => ?_)
  · show _ = tfS M0 18 _ _ 17 0
    rw [tfS_ne (by decide), h.1.1.2.1 0 (by decide) (by decide)]
  · show _ = tfS M0 18 _ _ 17 1
    rw [tfS_ne (by decide), h.1.1.2.1 1 (by decide) (by decide)]
  · show _ = tfS M0 18 _ _ 27
    rw [tfS_ne (by decide), f 27 (by decide) (by decide) (by decide) (by decide) (by decide) (by decide) (Or.inl (by decide))]
  · show _ = tfS M0 18 _ _ (20 + 1 + d)
    rw [tfS_ne (by omega), f _ (by omega) (by omega) (by omega) (by omega) (by omega) (by omega) (by omega)]
theorem sv_4x {M : sx_M0} {k s : Nat} {x : Int} (hk : 33 ≤ k) (hV : sv M) : sv (sx_up M k s x) := by
  unfold sv at hV ⊢
  rw [sx_up_ne (a := 17) (by omega), sx_up_ne (a := 18) (by omega), sx_up_ne (a := 27) (by omega), sx_up_ne (a := 29) (by omega)]
  refine ⟨hV.1, hV.2.1, hV.2.2.1, fun d p hd hp => ?_, hV.2.2.2.2⟩
  rw [sx_up_ne (by omega)]
  exact hV.2.2.2.1 d p hd hp
theorem rs_step {M0 M M1 : sx_M0} {n y s : Nat} {x : Int} (hy : y < 6) (hs : s < n) (h : rsN M0 M n y s) (hl : lsF M M1) (hV : sv M1) (hx : ysP M0 y s x) : rsN M0 (sx_up M1 (39 + 1 + y) s x) n y (s + 1) := by
  refine ⟨⟨⟨fun a p1 p2 p3 p4 p5 p6 p7 => ?_, fun b p1 p2 => ?_, sv_4x (by omega) hV, fun d hd => ?_⟩, fun y' s' q1 q2 => ?_⟩, fun s' q => ?_, ?_⟩
  · rw [sx_up_ne (by omega), hl.1 a p1 p3 p4 p5 p6]; exact h.1.1.1 a p1 p2 p3 p4 p5 p6 p7
  · rw [sx_up_ne (by omega), hl.2 b p1 p2]; exact h.1.1.2.1 b p1 p2
  · rw [sx_up_ne (by omega), hl.1 18 (by decide) (by decide) (by decide) (by decide) (by decide)]; exact h.1.1.2.2.2 d hd
  · rw [sx_up_ne (by omega), hl.1 _ (by omega) (by omega) (by omega) (by omega) (by omega)]; exact h.1.2 y' s' q1 q2
  · by_cases e : s' = s
    · subst e
      rw [sx_up_at]; exact hx
    · rw [sx_up_slot e, hl.1 _ (by omega) (by omega) (by omega) (by omega) (by omega)]; exact h.2.1 s' (by omega)
  · rw [sx_up_ne (by omega), hl.1 18 (by decide) (by decide) (by decide) (by decide) (by decide)]; exact h.2.2
set_option maxRecDepth 100000 in
set_option maxHeartbeats 4000000 in
theorem lp2_Ca_reckonSums  (M0 : sx_M0) (hT : tw M0) (hV : sv M0) (hR : ∀ p, p < 5 → 0 ≤ M0 19 p ∧ M0 19 p ≤ 1000) (hf0 : M0 17 13 = 0) (k n : Nat) (hk6 : k ≤ 6) (hn9 : n ≤ 32) (y : Nat) (hyk : y < 6) {E : sx_E} (C : sx_C SC g_tbl "SiteChoice$Calendar" c_Ca_reckonSums E) (Rr : sx_Ret SC none (rmk 25 950) (fun r G' M' => G' = GL ∧ r = none ∧ rsO M0 M' n k) E) (hnL : sx_nL E = 7) (hk : ∀ M : sx_M0, rsO M0 M n (y + 1) → sx_X SC E (0, 0) GL M 66 [(5, sx_I (((y : Nat) : Int))), (0, sx_A (37)), (1, sx_I (((k : Nat) : Int))), (2, sx_I (((n : Nat) : Int))), (3, sx_A (1)), (4, sx_A (17))] []) : ∀ (nF : Nat) (s : Nat) (M : sx_M0), n - s < nF → rsN M0 M n y s → s ≤ n → sx_X SC E (0, 0) GL M 20 [(6, sx_I (((s : Nat) : Int))), (5, sx_I (((y : Nat) : Int))), (0, sx_A (37)), (1, sx_I (((k : Nat) : Int))), (2, sx_I (((n : Nat) : Int))), (3, sx_A (1)), (4, sx_A (17))] [] := by
  intro nF
  induction nF with
  | zero => intro s M h; omega
  | succ nF ih =>
    intro s M hn h h2
    have e27 : M 27 = M0 27 := h.1.1.1 27 (by decide) (by decide) (by decide) (by decide) (by decide) (by decide) (Or.inl (by decide))
    have hVM := h.1.1.2.2.1
    have hRM : ∀ p, p < 5 → 0 ≤ M 19 p ∧ M 19 p ≤ 1000 := fun p hp => by rw [h.1.1.1 19 (by decide) (by decide) (by decide) (by decide) (by decide) (by decide) (Or.inl (by decide))]; exact hR p hp
    refine sx_iload C 0 d_Ca_reckonSums_20 rfl ?_
    refine sx_iload_n C 4 d_Ca_reckonSums_22 rfl rfl ?_
    refine sx_icmp_ge C 66 ⟨by omega, by omega⟩ ⟨by omega, by omega⟩ d_Ca_reckonSums_23 (by decide) (fun c23 => ?_) (fun c23 => ?_)
    · refine sx_sub [1, 2, 3, 4, 5, 6] rfl ?_
      exact hk M ⟨h.1.1, fun y' s' q1 q2 => by rcases Nat.lt_or_ge y' y with q | q; exact h.1.2 y' s' q q2; rw [show y' = y by omega]; exact h.2.1 s' (by omega)⟩
    · refine sx_aload_n C 2 d_Ca_reckonSums_26 rfl rfl ?_
      refine sx_getr C f_Ca_21 39 (by decide) rfl rfl d_Ca_reckonSums_27 ?_
      refine sx_iload C 1 d_Ca_reckonSums_30 rfl ?_
      refine sx_aaload C y (39 + 1 + y) (by decide) rfl rfl rfl (by omega) (by decide) (if_pos (by omega)) d_Ca_reckonSums_32 ?_
      refine sx_iload C 0 d_Ca_reckonSums_33 rfl ?_
      refine sx_aload C 6 d_Ca_reckonSums_35 rfl ?_
      refine sx_getr C f_Ca_62 27 (by decide) rfl rfl d_Ca_reckonSums_37 ?_
      refine sx_iload C 0 d_Ca_reckonSums_40 rfl ?_
      refine sx_zaload C s (by decide) rfl rfl rfl (by omega) (by decide) d_Ca_reckonSums_42 ?_
      have m27 := hVM.2.2.2.2.1 s (by omega)
      refine sx_if_eq C 56 ⟨by omega, by omega⟩ d_Ca_reckonSums_43 (by decide) (fun c43 => ?_) (fun c43 => ?_)
      · refine sx_ldc2 (v := (-1)) C (-1) (tb_ 493 (by decide +kernel) rfl) (by decide) d_Ca_reckonSums_56 ?_
        refine sx_lastore C s (by show (39 + 1 + y) < 71; omega) (gl_39 _ (by omega)) rfl rfl (by omega) (by decide) d_Ca_reckonSums_59 ?_
        refine sx_iinc (lv' := [(6, sx_I (((s + 1 : Nat) : Int))), (5, sx_I (((y : Nat) : Int))), (0, sx_A (37)), (1, sx_I (((k : Nat) : Int))), (2, sx_I (((n : Nat) : Int))), (3, sx_A (1)), (4, sx_A (17))]) C 0 d_Ca_reckonSums_60 rfl (by rw [hnL]; decide) rfl ?_
        refine sx_goto C 20 d_Ca_reckonSums_63 (by decide) ?_
        refine sx_sub [0, 1, 2, 3, 4, 5, 6] rfl ?_
        exact ih (s + 1) _ (by omega) (rs_step hyk (by omega) h ⟨fun _ _ _ _ _ _ => rfl, fun _ _ _ => rfl⟩ hVM ⟨⟨by decide, by decide⟩, Or.inr ⟨by rw [← e27]; exact c43, rfl⟩⟩) (by omega)
      · refine sx_aload C 6 d_Ca_reckonSums_46 rfl ?_
        refine sx_iload C 0 d_Ca_reckonSums_48 rfl ?_
        have m1 : M0 27 s = 1 := by rw [← e27]; omega
        refine sx_callV (n := 71) (As := [sx_I (((s : Nat) : Int))]) (st := [sx_I (((s : Nat) : Int)), sx_A ((39 + 1 + y))]) C (ct_Se_leastSum _ _ _ M hVM s (by omega) hRM) rfl (by decide) rfl (cv_Ca_66 E C _ (by rw [Rr.2.2]; decide)) (Nat.le_of_ble_eq_true rfl) d_Ca_reckonSums_50 (by rw [Rr.2.2]; decide) (by decide) rfl (by simp [sx_ok]; omega) rfl (fun r50 G50 M50 hpo _ => ?_)
        obtain ⟨e1, x50, rfl, z1, z2, z3, z4⟩ := hpo
        rw [e1]
        have z5 := z4
        rw [rs_j h, h.1.1.1 19 (by decide) (by decide) (by decide) (by decide) (by decide) (by decide) (Or.inl (by decide)), h.1.1.2.1 13 (by decide) (by decide), hf0] at z5
        show sx_X SC E (0, 0) GL M50 53 [(6, sx_I (((s : Nat) : Int))), (5, sx_I (((y : Nat) : Int))), (0, sx_A (37)), (1, sx_I (((k : Nat) : Int))), (2, sx_I (((n : Nat) : Int))), (3, sx_A (1)), (4, sx_A (17))] [sx_J (x50), sx_I (((s : Nat) : Int)), sx_A ((39 + 1 + y))]
        refine sx_goto C 59 d_Ca_reckonSums_53 (by decide) ?_
        refine sx_lastore C s (by show (39 + 1 + y) < 71; omega) (gl_39 _ (by omega)) rfl rfl (by omega) (by decide) d_Ca_reckonSums_59 ?_
        refine sx_iinc (lv' := [(6, sx_I (((s + 1 : Nat) : Int))), (5, sx_I (((y : Nat) : Int))), (0, sx_A (37)), (1, sx_I (((k : Nat) : Int))), (2, sx_I (((n : Nat) : Int))), (3, sx_A (1)), (4, sx_A (17))]) C 0 d_Ca_reckonSums_60 rfl (by rw [hnL]; decide) rfl ?_
        refine sx_goto C 20 d_Ca_reckonSums_63 (by decide) ?_
        refine sx_sub [0, 1, 2, 3, 4, 5, 6] rfl ?_
        exact ih (s + 1) _ (by omega) (rs_step hyk (by omega) h z2 z3 ⟨by have := z3.2.2.2.2.2.2.2.2; omega, Or.inl ⟨by omega, M50 32, z5⟩⟩) (by omega)
set_option maxRecDepth 100000 in
set_option maxHeartbeats 4000000 in
theorem lp_Ca_reckonSums  (M0 : sx_M0) (hT : tw M0) (hV : sv M0) (hR : ∀ p, p < 5 → 0 ≤ M0 19 p ∧ M0 19 p ≤ 1000) (hf0 : M0 17 13 = 0) (k n : Nat) (hk6 : k ≤ 6) (hn9 : n ≤ 32) {E : sx_E} (C : sx_C SC g_tbl "SiteChoice$Calendar" c_Ca_reckonSums E) (Rr : sx_Ret SC none (rmk 25 950) (fun r G' M' => G' = GL ∧ r = none ∧ rsO M0 M' n k) E) (hnL : sx_nL E = 7) : ∀ (nF : Nat) (y : Nat) (M : sx_M0), k - y < nF → rsO M0 M n y → y ≤ k → sx_X SC E (0, 0) GL M 3 [(5, sx_I (((y : Nat) : Int))), (0, sx_A (37)), (1, sx_I (((k : Nat) : Int))), (2, sx_I (((n : Nat) : Int))), (3, sx_A (1)), (4, sx_A (17))] [] := by
  intro nF
  induction nF with
  | zero => intro y M h; omega
  | succ nF ih =>
    intro y M hn h h2
    have hTM : tw M := tw_fr (fun a ha => h.1.1 a (by omega) (by omega) (by omega) (by omega) (by omega) (by omega) (by omega)) hT
    refine sx_iload C 0 d_Ca_reckonSums_3 rfl ?_
    refine sx_iload_n C 2 d_Ca_reckonSums_5 rfl rfl ?_
    refine sx_icmp_ge C 72 ⟨by omega, by omega⟩ ⟨by omega, by omega⟩ d_Ca_reckonSums_6 (by decide) (fun c6 => ?_) (fun c6 => ?_)
    · refine sx_return C Rr rfl d_Ca_reckonSums_72 ?_
      have e : y = k := by omega
      rw [e] at h
      exact ⟨rfl, rfl, h⟩
    · refine sx_aload C 5 d_Ca_reckonSums_9 rfl ?_
      refine sx_aload_n C 4 d_Ca_reckonSums_11 rfl rfl ?_
      refine sx_iload C 0 d_Ca_reckonSums_12 rfl ?_
      refine sx_callV (n := 71) (As := [sx_A (1), sx_I (((y : Nat) : Int))]) (st := []) C (ct_Se_loadNeedsOfYear _ _ _ M hTM h.1.2.2.1.1 y (by omega)) rfl (by decide) rfl (cv_Ca_59 E C _ (by rw [Rr.2.2]; decide)) (Nat.le_of_ble_eq_true rfl) d_Ca_reckonSums_14 (by rw [Rr.2.2]; decide) (by decide) rfl rfl rfl (fun r14 G14 M14 hpo _ => ?_)
      obtain ⟨e1, e2, rfl⟩ := hpo
      rw [e1, e2]
      show sx_X SC E (0, 0) GL (nY M y) 17 [(5, sx_I (((y : Nat) : Int))), (0, sx_A (37)), (1, sx_I (((k : Nat) : Int))), (2, sx_I (((n : Nat) : Int))), (3, sx_A (1)), (4, sx_A (17))] []
      refine sx_iconst C d_Ca_reckonSums_17 ?_
      refine sx_istore (lv' := [(6, sx_I (0)), (5, sx_I (((y : Nat) : Int))), (0, sx_A (37)), (1, sx_I (((k : Nat) : Int))), (2, sx_I (((n : Nat) : Int))), (3, sx_A (1)), (4, sx_A (17))]) C d_Ca_reckonSums_18 (by rw [hnL]; decide) rfl ?_
      refine sx_sub [0, 1, 2, 3, 4, 5, 6] rfl ?_
      refine lp2_Ca_reckonSums M0 hT hV hR hf0 k n hk6 hn9 y (by omega) C Rr hnL (fun M2 hx2 => ?_) _ 0 (nY M y) (Nat.lt_succ_self _) (rs_load hT hV (by omega) h) (Nat.zero_le _)
      refine sx_iinc (lv' := [(5, sx_I (((y + 1 : Nat) : Int))), (0, sx_A (37)), (1, sx_I (((k : Nat) : Int))), (2, sx_I (((n : Nat) : Int))), (3, sx_A (1)), (4, sx_A (17))]) C 0 d_Ca_reckonSums_66 rfl (by rw [hnL]; decide) rfl ?_
      refine sx_goto C 3 d_Ca_reckonSums_69 (by decide) ?_
      refine sx_sub [0, 1, 2, 3, 4, 5] rfl ?_
      exact ih (y + 1) M2 (by omega) hx2 (by omega)
set_option maxRecDepth 100000 in
set_option maxHeartbeats 4000000 in
theorem ct_Ca_reckonSums (l : Launch) (D : va_G) (tc : Nat → ClassId) (M : sx_M0) (hT : tw M) (hV : sv M) (hR : ∀ p, p < 5 → 0 ≤ M 19 p ∧ M 19 p ≤ 1000) (hf0 : M 17 13 = 0) (k n : Nat) (hk6 : k ≤ 6) (hn9 : n ≤ 32) : sx_Met SC l D tc y_Ca_reckonSums w_Ca_reckonSums (rmk 25 950) [sx_A (37), sx_I (((k : Nat) : Int)), sx_I (((n : Nat) : Int)), sx_A (1), sx_A (17)] GL M (fun r G' M' => G' = GL ∧ r = none ∧ rsO M M' n k) := by
  refine sx_enter (by decide) rfl (Nat.le_of_ble_eq_true rfl) (Ts := g_tbl) (fun _ h => List.mem_cons_of_mem _ h) (fun E C Rr hnm hnL => ?_)
  refine sx_iconst C d_Ca_reckonSums_0 ?_
  refine sx_istore (lv' := [(5, sx_I (0)), (0, sx_A (37)), (1, sx_I (((k : Nat) : Int))), (2, sx_I (((n : Nat) : Int))), (3, sx_A (1)), (4, sx_A (17))]) C d_Ca_reckonSums_1 (by rw [hnL]; decide) rfl ?_
  refine sx_sub [0, 1, 2, 3, 4, 5] rfl ?_
  exact lp_Ca_reckonSums M hT hV hR hf0 k n hk6 hn9 C Rr hnL _ 0 M (Nat.lt_succ_self _) ⟨⟨fun _ _ _ _ _ _ _ _ => rfl, fun _ _ _ => rfl, hV, fun _ _ => rfl⟩, fun y s q => by omega⟩ (Nat.zero_le _)
