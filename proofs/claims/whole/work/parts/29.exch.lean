def xF (M M' : sx_M0) : Prop := (∀ a, a ≠ 17 → a ≠ 30 → a ≠ 34 → M' a = M a) ∧ (∀ b, b ≠ 12 → M' 17 b = M 17 b)
/-- may district d be given place p instead? -/
def exS (M : sx_M0) (d p : Nat) : Prop := (0 ≤ M 34 d ∧ M 34 d < M 1 1) ∧ rcS M d p ≠ -1 ∧ rcS M d p < M (4 + 1 + d) (M 34 d).toNat ∧ PL (jW M 31) (dN M) 0 0 (M 19) (sx_up M 34 d (p : Int) 34)
theorem jW_fr {M M' : sx_M0} {W : Nat} (h0 : M' 17 0 = M 17 0) (h1 : M' 17 1 = M 17 1) (h18 : M' 18 = M 18) (h27 : M' 27 = M 27) (hr : ∀ d, d < 6 → M' (20 + 1 + d) = M (20 + 1 + d)) : jW M' W = jW M W := by
  unfold jW
  rw [h0, h1, h18, h27]
  have e : (fun d p => if d < 6 then M' (20 + 1 + d) p else 0) = (fun d p => if d < 6 then M (20 + 1 + d) p else 0) := by
    funext d p
    by_cases hd : d < 6
    · rw [if_pos hd, if_pos hd, hr d hd]
    · rw [if_neg hd, if_neg hd]
  rw [e]
theorem ex_fr {M M' : sx_M0} (h : xF M M') (h34 : M' 34 = M 34) {d p : Nat} (hd : d < 6) : exS M' d p ↔ exS M d p := by
  have e34 : sx_up M' 34 d (p : Int) 34 = sx_up M 34 d (p : Int) 34 := by
    funext b
    unfold sx_up
    rw [h34]
  unfold exS dN
  rw [e34, h34, h.1 1 (by decide) (by decide) (by decide), h.1 19 (by decide) (by decide) (by decide), h.1 (4 + 1 + d) (by omega) (by omega) (by omega), h.2 0 (by decide), rc_fr (fun a ha => h.1 a (by omega) (by omega) (by omega)) hd, jW_fr (h.2 0 (by decide)) (h.2 1 (by decide)) (h.1 18 (by decide) (by decide) (by decide)) (h.1 27 (by decide) (by decide) (by decide)) (fun d hd => h.1 _ (by omega) (by omega) (by omega))]
theorem hv_34 {M : sx_M0} (hH : hv M) {d p : Nat} (hp : p ≤ 4) : hv (sx_up M 34 d (p : Int)) := by
  unfold hv at hH ⊢
  rw [sx_up_ne (a := 33) (by decide), sx_up_ne (a := 35) (by decide), sx_up_ne (a := 36) (by decide), sx_up_ne (a := 37) (by decide), sx_up_ne (a := 38) (by decide), sx_up_ne (a := 0) (by decide)]
  refine ⟨hH.1, fun e he => ?_, hH.2.2⟩
  by_cases q : e = d
  · subst q
    rw [sx_up_at]
    omega
  · rw [sx_up_slot q]
    exact hH.2.1 e he
theorem sv_34 {M M' : sx_M0} (h : ∀ a, a ≠ 34 → M' a = M a) (hV : sv M) : sv M' := by
  unfold sv at hV ⊢
  rw [h 17 (by decide), h 18 (by decide), h 27 (by decide), h 29 (by decide)]
  refine ⟨hV.1, hV.2.1, hV.2.2.1, fun d p hd hp => ?_, hV.2.2.2.2⟩
  rw [h (20 + 1 + d) (by omega)]
  exact hV.2.2.2.1 d p hd hp
def xP (M M' : sx_M0) (d p : Nat) (r : Option sx_V) : Prop := xF M M' ∧ sv M' ∧ ((r = some (sx_I 1) ∧ exS M d p ∧ M' 34 = sx_up M 34 d (p : Int) 34) ∨ (r = some (sx_I 0) ∧ ¬ exS M d p ∧ M' 34 = M 34))
set_option maxRecDepth 100000 in
set_option maxHeartbeats 4000000 in
theorem ct_He_exchange (l : Launch) (D : va_G) (tc : Nat → ClassId) (M : sx_M0) (hT : tw M) (hV : sv M) (hH : hv M) (hR : ∀ p, p < 5 → 0 ≤ M 19 p ∧ M 19 p ≤ 1000) (d p : Nat) (hd : d < (M 1 0).toNat) (hp : p < (M 1 1).toNat) : sx_Met SC l D tc y_He_exchange w_He_exchange (rmk 3 120) [sx_A (33), sx_I (((d : Nat) : Int)), sx_I (((p : Nat) : Int)), sx_A (1), sx_A (17)] GL M (fun r G' M' => G' = GL ∧ xP M M' d p r) := by
  refine sx_enter (by decide) rfl (Nat.le_of_ble_eq_true rfl) (Ts := g_tbl) (fun _ h => List.mem_cons_of_mem _ h) (fun E C Rr hnm hnL => ?_)
  have g0 := hT.1
  have g1 := hT.2.1
  refine sx_aload_n C 0 d_He_exchange_0 rfl rfl ?_
  refine sx_getr C f_He_19 34 (by decide) rfl rfl d_He_exchange_1 ?_
  refine sx_iload_n C 1 d_He_exchange_4 rfl rfl ?_
  refine sx_iaload C d (by decide) rfl rfl rfl (by omega) (by decide) d_He_exchange_5 ?_
  refine sx_istore (lv' := [(5, sx_I (M 34 d)), (0, sx_A (33)), (1, sx_I (((d : Nat) : Int))), (2, sx_I (((p : Nat) : Int))), (3, sx_A (1)), (4, sx_A (17))]) C d_He_exchange_6 (by rw [hnL]; decide) rfl ?_
  have h34 := hH.2.1 d (by omega)
  refine sx_aload_n C 4 d_He_exchange_8 rfl rfl ?_
  refine sx_iload_n C 2 d_He_exchange_9 rfl rfl ?_
  refine sx_iload_n C 3 d_He_exchange_10 rfl rfl ?_
  refine sx_callV (n := 71) (As := [sx_I (((d : Nat) : Int)), sx_I (((p : Nat) : Int))]) (st := []) C (ct_To_reach _ _ _ M hT d p (by omega) (by omega)) rfl (by decide) rfl (cv_He_58 E C _ (by rw [Rr.2.2]; decide)) (Nat.le_of_ble_eq_true rfl) d_He_exchange_11 (by rw [Rr.2.2]; decide) (by decide) rfl rfl rfl (fun r11 G11 M11 hpo _ => ?_)
  obtain ⟨e1, e2, rfl⟩ := hpo
  rw [e1, e2]
  show sx_X SC E (0, 0) GL M 14 [(5, sx_I (M 34 d)), (0, sx_A (33)), (1, sx_I (((d : Nat) : Int))), (2, sx_I (((p : Nat) : Int))), (3, sx_A (1)), (4, sx_A (17))] [sx_J (rcS M d p)]
  refine sx_lstore (lv' := [(6, sx_J (rcS M d p)), (5, sx_I (M 34 d)), (0, sx_A (33)), (1, sx_I (((d : Nat) : Int))), (2, sx_I (((p : Nat) : Int))), (3, sx_A (1)), (4, sx_A (17))]) C d_He_exchange_14 (by rw [hnL]; decide) rfl ?_
  have hrb := rcS_bd hT (d := d) (p := p) (by omega) (by omega)
  refine sx_aload_n C 5 d_He_exchange_16 rfl rfl ?_
  refine sx_iload C 1 d_He_exchange_17 rfl ?_
  refine sx_callV (n := 71) (As := [sx_I (M 34 d)]) (st := []) C (ct_To_hasPlace _ _ _ M hT (M 34 d) (by constructor <;> omega)) rfl (by decide) rfl (cv_He_39 E C _ (by rw [Rr.2.2]; decide)) (Nat.le_of_ble_eq_true rfl) d_He_exchange_19 (by rw [Rr.2.2]; decide) (by decide) rfl rfl rfl (fun r19 G19 M19 hpo _ => ?_)
  obtain ⟨e1, e2, b19, rfl, hb19⟩ := hpo
  rw [e1, e2]
  show sx_X SC E (0, 0) GL M 22 [(6, sx_J (rcS M d p)), (5, sx_I (M 34 d)), (0, sx_A (33)), (1, sx_I (((d : Nat) : Int))), (2, sx_I (((p : Nat) : Int))), (3, sx_A (1)), (4, sx_A (17))] [sx_I (b19)]
  refine sx_if_eq C 49 ⟨by omega, by omega⟩ d_He_exchange_22 (by decide) (fun c22 => ?_) (fun c22 => ?_)
  · refine sx_iconst C d_He_exchange_49 ?_
    refine sx_zreturn C Rr (by omega) rfl d_He_exchange_50 ?_
    exact ⟨rfl, ⟨fun _ _ _ _ => rfl, fun _ _ => rfl⟩, hV, Or.inr ⟨rfl, by rintro ⟨z1, z2, z3, z4⟩; omega, rfl⟩⟩
  · refine sx_lload C 0 d_He_exchange_25 rfl ?_
    refine sx_ldc2 (v := (-1)) C (-1) (tb_ 468 (by decide +kernel) rfl) (by decide) d_He_exchange_27 ?_
    refine sx_lcmp_eq C 49 ⟨by omega, by omega⟩ ⟨by omega, by omega⟩ d_He_exchange_30 d_He_exchange_31 (by decide) (fun c31 => ?_) (fun c31 => ?_)
    · refine sx_iconst C d_He_exchange_49 ?_
      refine sx_zreturn C Rr (by omega) rfl d_He_exchange_50 ?_
      exact ⟨rfl, ⟨fun _ _ _ _ => rfl, fun _ _ => rfl⟩, hV, Or.inr ⟨rfl, by rintro ⟨z1, z2, z3, z4⟩; omega, rfl⟩⟩
    · refine sx_lload C 0 d_He_exchange_34 rfl ?_
      have hq : 0 ≤ M 34 d ∧ M 34 d < M 1 1 := by rcases hb19 with ⟨q1, q2⟩ | ⟨q1, q2⟩; exact q2; omega
      have hmb := hT.2.2.2.2.2.1 d (M 34 d).toNat (by omega) (by omega)
      have hdn : dN (sx_up M 34 d (p : Int)) = dN M := congrArg Int.toNat (congrFun (sx_up_ne (by decide)) 0)
      refine sx_aload_n C 5 d_He_exchange_36 rfl rfl ?_
      refine sx_getr C f_He_47 4 (by decide) rfl rfl d_He_exchange_37 ?_
      refine sx_iload_n C 3 d_He_exchange_40 rfl rfl ?_
      refine sx_aaload C d (4 + 1 + d) (by decide) rfl rfl rfl (by omega) (by decide) (if_pos (by omega)) d_He_exchange_41 ?_
      refine sx_iload C 1 d_He_exchange_42 rfl ?_
      refine sx_laload C (M 34 d).toNat (by show (4 + 1 + d) < 71; omega) (gl_4 _ (by omega)) rfl (by omega) (by omega) (by decide) d_He_exchange_44 ?_
      refine sx_lcmp_lt C 51 ⟨by omega, by omega⟩ ⟨by omega, by omega⟩ d_He_exchange_45 d_He_exchange_46 (by decide) (fun c46 => ?_) (fun c46 => ?_)
      · refine sx_aload_n C 2 d_He_exchange_51 rfl rfl ?_
        refine sx_getr C f_He_19 34 (by decide) rfl rfl d_He_exchange_52 ?_
        refine sx_iload_n C 3 d_He_exchange_55 rfl rfl ?_
        refine sx_iload_n C 4 d_He_exchange_56 rfl rfl ?_
        refine sx_iastore C d (by decide) rfl rfl rfl (by omega) (by decide) d_He_exchange_57 ?_
        refine sx_aload C 6 d_He_exchange_58 rfl ?_
        refine sx_aload_n C 2 d_He_exchange_60 rfl rfl ?_
        refine sx_getr C f_He_19 34 (by decide) rfl rfl d_He_exchange_61 ?_
        refine sx_callV (n := 71) (As := [sx_A (34)]) (st := []) C (ct_Se_isPlan _ _ _ (sx_up M 34 d (p : Int)) (sv_34 (fun a ha => sx_up_ne ha) hV) (hv_34 hH (by omega)) (fun q hq => by rw [sx_up_ne (by decide)]; exact hR q hq)) rfl (by decide) rfl (cv_He_64 E C _ (by rw [Rr.2.2]; decide)) (Nat.le_of_ble_eq_true rfl) d_He_exchange_64 (by rw [Rr.2.2]; decide) (by decide) rfl rfl rfl (fun r64 G64 M64 hpo _ => ?_)
        obtain ⟨e1, f64, k64, s64, b64, rfl, hb64⟩ := hpo
        rw [e1]
        show sx_X SC E (0, 0) GL M64 67 [(6, sx_J (rcS M d p)), (5, sx_I (M 34 d)), (0, sx_A (33)), (1, sx_I (((d : Nat) : Int))), (2, sx_I (((p : Nat) : Int))), (3, sx_A (1)), (4, sx_A (17))] [sx_I (b64)]
        refine sx_if_eq C 72 ⟨by omega, by omega⟩ d_He_exchange_67 (by decide) (fun c67 => ?_) (fun c67 => ?_)
        · refine sx_aload_n C 2 d_He_exchange_72 rfl rfl ?_
          refine sx_getr C f_He_19 34 (by decide) rfl rfl d_He_exchange_73 ?_
          refine sx_iload_n C 3 d_He_exchange_76 rfl rfl ?_
          refine sx_iload C 1 d_He_exchange_77 rfl ?_
          refine sx_iastore C d (by decide) rfl rfl rfl (by omega) (by decide) d_He_exchange_79 ?_
          refine sx_iconst C d_He_exchange_80 ?_
          refine sx_zreturn C Rr (by omega) rfl d_He_exchange_81 ?_
          exact ⟨rfl, ⟨fun a h1 h2 h3 => by rw [sx_up_ne h3, f64 a h1 h2, sx_up_ne h3], fun b hb => by rw [sx_up_ne (by decide), k64 b hb, sx_up_ne (by decide)]⟩, sv_34 (fun a ha => sx_up_ne ha) s64, Or.inr ⟨rfl, by rintro ⟨-, -, -, z4⟩; rcases hb64 with ⟨q1, q2⟩ | ⟨q1, q2⟩; omega; (rw [jW_fr (M := M) (by rw [sx_up_ne (by decide)]) (by rw [sx_up_ne (by decide)]) (sx_up_ne (by decide)) (sx_up_ne (by decide)) (fun d hd => sx_up_ne (by omega)), sx_up_ne (a := 19) (by decide), hdn] at q2; exact q2 z4), by funext b; by_cases e : b = d; (subst e; rw [sx_up_at]); rw [sx_up_slot e, f64 34 (by decide) (by decide), sx_up_slot e]⟩⟩
        · refine sx_iconst C d_He_exchange_70 ?_
          refine sx_zreturn C Rr (by omega) rfl d_He_exchange_71 ?_
          exact ⟨rfl, ⟨fun a h1 h2 h3 => by rw [f64 a h1 h2, sx_up_ne h3], fun b hb => by rw [k64 b hb, sx_up_ne (by decide)]⟩, s64, Or.inl ⟨rfl, ⟨hq, by omega, by omega, by rcases hb64 with ⟨q1, q2⟩ | ⟨q1, q2⟩; (rw [jW_fr (M := M) (by rw [sx_up_ne (by decide)]) (by rw [sx_up_ne (by decide)]) (sx_up_ne (by decide)) (sx_up_ne (by decide)) (fun d hd => sx_up_ne (by omega)), sx_up_ne (a := 19) (by decide), hdn] at q2; exact q2); omega⟩, f64 34 (by decide) (by decide)⟩⟩
      · refine sx_iconst C d_He_exchange_49 ?_
        refine sx_zreturn C Rr (by omega) rfl d_He_exchange_50 ?_
        exact ⟨rfl, ⟨fun _ _ _ _ => rfl, fun _ _ => rfl⟩, hV, Or.inr ⟨rfl, by rintro ⟨z1, z2, z3, z4⟩; omega, rfl⟩⟩
/-- the first exchange, by districts, then by places -/
def x1 (M : sx_M0) (d p : Nat) : Prop := d < (M 1 0).toNat ∧ p < (M 1 1).toNat ∧ exS M d p ∧ (∀ e q, e < d → q < (M 1 1).toNat → ¬ exS M e q) ∧ (∀ q, q < p → ¬ exS M d q)
def xfP (M M' : sx_M0) (r : Option sx_V) : Prop := xF M M' ∧ sv M' ∧ ((r = some (sx_I 1) ∧ ∃ d p, x1 M d p ∧ M' 34 = sx_up M 34 d (p : Int) 34) ∨ (r = some (sx_I 0) ∧ (∀ d p, d < (M 1 0).toNat → p < (M 1 1).toNat → ¬ exS M d p) ∧ M' 34 = M 34))
def xI (M0 M : sx_M0) (d p : Nat) : Prop := xF M0 M ∧ sv M ∧ M 34 = M0 34 ∧ (∀ e q, e < d → q < (M0 1 1).toNat → ¬ exS M0 e q) ∧ (∀ q, q < p → ¬ exS M0 d q)
theorem xF_tr {M M1 M2 : sx_M0} (h : xF M M1) (h2 : xF M1 M2) : xF M M2 := ⟨fun a p q r => (h2.1 a p q r).trans (h.1 a p q r), fun b hb => (h2.2 b hb).trans (h.2 b hb)⟩
theorem hv_x {M M' : sx_M0} (h : xF M M') (h34 : M' 34 = M 34) (hH : hv M) : hv M' := by
  unfold hv at hH ⊢
  rw [h34, h.1 33 (by decide) (by decide) (by decide), h.1 35 (by decide) (by decide) (by decide), h.1 36 (by decide) (by decide) (by decide), h.1 37 (by decide) (by decide) (by decide), h.1 38 (by decide) (by decide) (by decide), h.1 0 (by decide) (by decide) (by decide)]
  exact hH
set_option maxRecDepth 100000 in
set_option maxHeartbeats 4000000 in
theorem lp2_He_exchangeFirst  (M0 : sx_M0) (hT : tw M0) (hH : hv M0) (hR : ∀ p, p < 5 → 0 ≤ M0 19 p ∧ M0 19 p ≤ 1000) (d : Nat) (hd : d < (M0 1 0).toNat) {E : sx_E} (C : sx_C SC g_tbl "SiteChoice$HeldPlan" c_He_exchangeFirst E) (Rr : sx_Ret SC (some .boolean) (rmk 4 160) (fun r G' M' => G' = GL ∧ xfP M0 M' r) E) (hnL : sx_nL E = 5) (hk : ∀ M : sx_M0, xI M0 M (d + 1) 0 → sx_X SC E (0, 0) GL M 42 [(3, sx_I (((d : Nat) : Int))), (0, sx_A (33)), (1, sx_A (1)), (2, sx_A (17))] []) : ∀ (nF : Nat) (p : Nat) (M : sx_M0), (M0 1 1).toNat - p < nF → xI M0 M d p → p ≤ (M0 1 1).toNat → sx_X SC E (0, 0) GL M 13 [(4, sx_I (((p : Nat) : Int))), (3, sx_I (((d : Nat) : Int))), (0, sx_A (33)), (1, sx_A (1)), (2, sx_A (17))] [] := by
  intro nF
  induction nF with
  | zero => intro p M h; omega
  | succ nF ih =>
    intro p M hn h h2
    have g0 := hT.1
    have g1 := hT.2.1
    have e1M : M 1 = M0 1 := h.1.1 1 (by decide) (by decide) (by decide)
    have hTM := tw_fr (fun a ha => h.1.1 a (by omega) (by omega) (by omega)) hT
    have hHM := hv_x h.1 h.2.2.1 hH
    have hRM : ∀ p, p < 5 → 0 ≤ M 19 p ∧ M 19 p ≤ 1000 := fun p hp => by rw [h.1.1 19 (by decide) (by decide) (by decide)]; exact hR p hp
    refine sx_iload C 0 d_He_exchangeFirst_13 rfl ?_
    refine sx_aload_n C 3 d_He_exchangeFirst_15 rfl rfl ?_
    refine sx_geti C f_He_51 (by decide) rfl d_He_exchangeFirst_16 ?_
    rw [e1M]
    refine sx_icmp_ge C 42 ⟨by omega, by omega⟩ ⟨by omega, by omega⟩ d_He_exchangeFirst_19 (by decide) (fun c19 => ?_) (fun c19 => ?_)
    · refine sx_sub [1, 2, 3, 4] rfl ?_
      exact hk M ⟨h.1, h.2.1, h.2.2.1, fun e q he hq => by rcases Nat.lt_or_ge e d with y | y; exact h.2.2.2.1 e q y hq; rw [show e = d by omega]; exact h.2.2.2.2 q (by omega), fun q hq => by omega⟩
    · refine sx_aload_n C 2 d_He_exchangeFirst_22 rfl rfl ?_
      refine sx_iload_n C 1 d_He_exchangeFirst_23 rfl rfl ?_
      refine sx_iload C 0 d_He_exchangeFirst_24 rfl ?_
      refine sx_aload_n C 3 d_He_exchangeFirst_26 rfl rfl ?_
      refine sx_aload_n C 4 d_He_exchangeFirst_27 rfl rfl ?_
      refine sx_callV (n := 71) (As := [sx_I (((d : Nat) : Int)), sx_I (((p : Nat) : Int)), sx_A (1), sx_A (17)]) (st := []) C (ct_He_exchange _ _ _ M hTM h.2.1 hHM hRM d p (by rw [e1M]; omega) (by rw [e1M]; omega)) rfl (by decide) rfl (cv_He_54 E C _ (by rw [Rr.2.2]; decide)) (Nat.le_of_ble_eq_true rfl) d_He_exchangeFirst_28 (by rw [Rr.2.2]; decide) (by decide) rfl rfl rfl (fun r28 G28 M28 hpo _ => ?_)
      obtain ⟨e1, f28, s28, q28⟩ := hpo
      rw [e1]
      obtain ⟨b28, hb28, hc28⟩ : ∃ b28 : Int, r28 = some (sx_I b28) ∧ (b28 = 0 ∨ b28 = 1) := by rcases q28 with ⟨z0, -⟩ | ⟨z0, -⟩; exact ⟨1, z0, Or.inr rfl⟩; exact ⟨0, z0, Or.inl rfl⟩
      subst hb28
      have hr28 : sx_r32 b28 := by constructor <;> omega
      show sx_X SC E (0, 0) GL M28 31 [(4, sx_I (((p : Nat) : Int))), (3, sx_I (((d : Nat) : Int))), (0, sx_A (33)), (1, sx_A (1)), (2, sx_A (17))] [sx_I (b28)]
      refine sx_if_eq C 36 hr28 d_He_exchangeFirst_31 (by decide) (fun c31 => ?_) (fun c31 => ?_)
      · refine sx_iinc (lv' := [(4, sx_I (((p + 1 : Nat) : Int))), (3, sx_I (((d : Nat) : Int))), (0, sx_A (33)), (1, sx_A (1)), (2, sx_A (17))]) C 0 d_He_exchangeFirst_36 rfl (by rw [hnL]; decide) rfl ?_
        refine sx_goto C 13 d_He_exchangeFirst_39 (by decide) ?_
        refine sx_sub [0, 1, 2, 3, 4] rfl ?_
        rcases q28 with ⟨z0, -⟩ | ⟨-, z1, z2⟩
        · cases z0; exact absurd c31 (by decide)
        · exact ih (p + 1) _ (by omega) ⟨xF_tr h.1 f28, s28, z2.trans h.2.2.1, h.2.2.2.1, fun q hq => by rcases Nat.lt_or_ge q p with y | y; exact h.2.2.2.2 q y; rw [show q = p by omega]; exact fun y2 => z1 ((ex_fr h.1 h.2.2.1 (by omega)).mpr y2)⟩ (by omega)
      · refine sx_iconst C d_He_exchangeFirst_34 ?_
        refine sx_zreturn C Rr (by omega) rfl d_He_exchangeFirst_35 ?_
        rcases q28 with ⟨-, z1, z2⟩ | ⟨z0, -⟩
        · exact ⟨rfl, xF_tr h.1 f28, s28, Or.inl ⟨rfl, d, p, ⟨by omega, by omega, (ex_fr h.1 h.2.2.1 (by omega)).mp z1, h.2.2.2.1, h.2.2.2.2⟩, by rw [z2]; funext b; unfold sx_up; rw [h.2.2.1]⟩⟩
        · cases z0; exact absurd rfl c31
set_option maxRecDepth 100000 in
set_option maxHeartbeats 4000000 in
theorem lp_He_exchangeFirst  (M0 : sx_M0) (hT : tw M0) (hH : hv M0) (hR : ∀ p, p < 5 → 0 ≤ M0 19 p ∧ M0 19 p ≤ 1000) {E : sx_E} (C : sx_C SC g_tbl "SiteChoice$HeldPlan" c_He_exchangeFirst E) (Rr : sx_Ret SC (some .boolean) (rmk 4 160) (fun r G' M' => G' = GL ∧ xfP M0 M' r) E) (hnL : sx_nL E = 5) : ∀ (nF : Nat) (d : Nat) (M : sx_M0), (M0 1 0).toNat - d < nF → xI M0 M d 0 → d ≤ (M0 1 0).toNat → sx_X SC E (0, 0) GL M 2 [(3, sx_I (((d : Nat) : Int))), (0, sx_A (33)), (1, sx_A (1)), (2, sx_A (17))] [] := by
  intro nF
  induction nF with
  | zero => intro d M h; omega
  | succ nF ih =>
    intro d M hn h h2
    have g0 := hT.1
    have g1 := hT.2.1
    have e1M : M 1 = M0 1 := h.1.1 1 (by decide) (by decide) (by decide)
    refine sx_iload_n C 0 d_He_exchangeFirst_2 rfl rfl ?_
    refine sx_aload_n C 2 d_He_exchangeFirst_3 rfl rfl ?_
    refine sx_geti C f_He_33 (by decide) rfl d_He_exchangeFirst_4 ?_
    rw [e1M]
    refine sx_icmp_ge C 48 ⟨by omega, by omega⟩ ⟨by omega, by omega⟩ d_He_exchangeFirst_7 (by decide) (fun c7 => ?_) (fun c7 => ?_)
    · refine sx_iconst C d_He_exchangeFirst_48 ?_
      refine sx_zreturn C Rr (by omega) rfl d_He_exchangeFirst_49 ?_
      exact ⟨rfl, h.1, h.2.1, Or.inr ⟨rfl, fun e q he hq => h.2.2.2.1 e q (by omega) hq, h.2.2.1⟩⟩
    · refine sx_iconst C d_He_exchangeFirst_10 ?_
      refine sx_istore (lv' := [(4, sx_I (0)), (3, sx_I (((d : Nat) : Int))), (0, sx_A (33)), (1, sx_A (1)), (2, sx_A (17))]) C d_He_exchangeFirst_11 (by rw [hnL]; decide) rfl ?_
      refine sx_sub [0, 1, 2, 3, 4] rfl ?_
      refine lp2_He_exchangeFirst M0 hT hH hR d (by omega) C Rr hnL (fun M2 hx2 => ?_) _ 0 M (Nat.lt_succ_self _) ⟨h.1, h.2.1, h.2.2.1, h.2.2.2.1, fun q hq => by omega⟩ (Nat.zero_le _)
      refine sx_iinc (lv' := [(3, sx_I (((d + 1 : Nat) : Int))), (0, sx_A (33)), (1, sx_A (1)), (2, sx_A (17))]) C 0 d_He_exchangeFirst_42 rfl (by rw [hnL]; decide) rfl ?_
      refine sx_goto C 2 d_He_exchangeFirst_45 (by decide) ?_
      refine sx_sub [0, 1, 2, 3] rfl ?_
      exact ih (d + 1) M2 (by omega) hx2 (by omega)
set_option maxRecDepth 100000 in
set_option maxHeartbeats 4000000 in
theorem ct_He_exchangeFirst (l : Launch) (D : va_G) (tc : Nat → ClassId) (M : sx_M0) (hT : tw M) (hV : sv M) (hH : hv M) (hR : ∀ p, p < 5 → 0 ≤ M 19 p ∧ M 19 p ≤ 1000) : sx_Met SC l D tc y_He_exchangeFirst w_He_exchangeFirst (rmk 4 160) [sx_A (33), sx_A (1), sx_A (17)] GL M (fun r G' M' => G' = GL ∧ xfP M M' r) := by
  refine sx_enter (by decide) rfl (Nat.le_of_ble_eq_true rfl) (Ts := g_tbl) (fun _ h => List.mem_cons_of_mem _ h) (fun E C Rr hnm hnL => ?_)
  refine sx_iconst C d_He_exchangeFirst_0 ?_
  refine sx_istore_n (lv' := [(3, sx_I (0)), (0, sx_A (33)), (1, sx_A (1)), (2, sx_A (17))]) C d_He_exchangeFirst_1 rfl (by rw [hnL]; decide) rfl ?_
  refine sx_sub [0, 1, 2, 3] rfl ?_
  exact lp_He_exchangeFirst M hT hH hR C Rr hnL _ 0 M (Nat.lt_succ_self _) ⟨⟨fun _ _ _ _ => rfl, fun _ _ => rfl⟩, hV, rfl, fun e q he => by omega, fun q hq => by omega⟩ (Nat.zero_le _)
