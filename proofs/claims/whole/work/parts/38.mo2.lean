def cgS (M : sx_M0) (d p : Nat) : Prop := M (4 + 1 + d) p ≠ -1 ∧ M (4 + 1 + d) p ≤ M 3 d
theorem rT_D {M : sx_M0} (hT : tw M) (hr : rT M) : 0 ≤ M 53 0 ∧ M 53 0 ≤ 6 := by rw [hr.1]; exact hT.1
theorem rT_P {M : sx_M0} (hT : tw M) (hr : rT M) : 0 ≤ M 53 1 ∧ M 53 1 ≤ 5 := by rw [hr.2.1]; exact hT.2.1
set_option maxRecDepth 100000 in
set_option maxHeartbeats 4000000 in
theorem ct_Mo_canGo (l : Launch) (D : va_G) (tc : Nat → ClassId) (M : sx_M0) (hT : tw M) (hr : rT M) (d p : Nat) (hd : (d : Int) < M 1 0) (hp : p < 5) : sx_Met SC l D tc y_Mo_canGo w_Mo_canGo (rmk 0 0) [sx_A (53), sx_I (((d : Nat) : Int)), sx_I (((p : Nat) : Int))] GL M (fun r G' M' => G' = GL ∧ M' = M ∧ bz (cgS M d p) r) := by
  refine sx_enter (by decide) rfl (Nat.le_of_ble_eq_true rfl) (Ts := g_tbl) (fun _ h => List.mem_cons_of_mem _ h) (fun E C Rr hnm hnL => ?_)
  have g0 := hT.1
  have g1 := hT.2.1
  have r0 := hr.1
  have r1 := hr.2.1
  have q1 := hr.2.2.2.2.2.1 d p hd hp
  have q2 := hr.2.2.2.2.1 d hd
  have q3 := hT.2.2.2.2.2.1 d p (by omega) hp
  have q4 := hT.2.2.2.2.1 d (by omega)
  refine sx_aload_n C 0 d_Mo_canGo_0 rfl rfl ?_
  refine sx_getr C f_Mo_35 62 (by decide) rfl rfl d_Mo_canGo_1 ?_
  refine sx_iconst C d_Mo_canGo_4 ?_
  refine sx_iload_n C 1 d_Mo_canGo_5 rfl rfl ?_
  refine sx_imul C d_Mo_canGo_6 ?_
  refine sx_iload_n C 2 d_Mo_canGo_7 rfl rfl ?_
  refine sx_iadd C d_Mo_canGo_8 ?_
  refine sx_laload C (5 * d + p) (by decide) rfl rfl (by omega) (by omega) (by decide) d_Mo_canGo_9 ?_
  refine sx_lstore_n (lv' := [(3, sx_J (M 62 (5 * d + p))), (0, sx_A (53)), (1, sx_I (((d : Nat) : Int))), (2, sx_I (((p : Nat) : Int)))]) C d_Mo_canGo_10 rfl (by rw [hnL]; decide) rfl ?_
  refine sx_lload_n C 0 d_Mo_canGo_11 rfl rfl ?_
  refine sx_lconst C 0 rfl d_Mo_canGo_12 ?_
  refine sx_lcmp_lt C 32 ⟨by omega, by omega⟩ ⟨by omega, by omega⟩ d_Mo_canGo_13 d_Mo_canGo_14 (by decide) (fun c14 => ?_) (fun c14 => ?_)
  · refine sx_iconst C d_Mo_canGo_32 ?_
    refine sx_zreturn C Rr (by omega) rfl d_Mo_canGo_33 ?_
    exact ⟨rfl, rfl, 0, rfl, Or.inr ⟨rfl, by unfold cgS; omega⟩⟩
  · refine sx_lload_n C 0 d_Mo_canGo_17 rfl rfl ?_
    refine sx_aload_n C 1 d_Mo_canGo_18 rfl rfl ?_
    refine sx_getr C f_Mo_13 55 (by decide) rfl rfl d_Mo_canGo_19 ?_
    refine sx_iload_n C 2 d_Mo_canGo_22 rfl rfl ?_
    refine sx_laload C d (by decide) rfl rfl rfl (by omega) (by decide) d_Mo_canGo_23 ?_
    refine sx_lcmp_gt C 32 ⟨by omega, by omega⟩ ⟨by omega, by omega⟩ d_Mo_canGo_24 d_Mo_canGo_25 (by decide) (fun c25 => ?_) (fun c25 => ?_)
    · refine sx_iconst C d_Mo_canGo_32 ?_
      refine sx_zreturn C Rr (by omega) rfl d_Mo_canGo_33 ?_
      exact ⟨rfl, rfl, 0, rfl, Or.inr ⟨rfl, by unfold cgS; omega⟩⟩
    · refine sx_iconst C d_Mo_canGo_28 ?_
      refine sx_goto C 33 d_Mo_canGo_29 (by decide) ?_
      refine sx_zreturn C Rr (by omega) rfl d_Mo_canGo_33 ?_
      exact ⟨rfl, rfl, 1, rfl, Or.inl ⟨rfl, by unfold cgS; omega⟩⟩
set_option maxRecDepth 100000 in
set_option maxHeartbeats 4000000 in
theorem ct_Mo_all (l : Launch) (D : va_G) (tc : Nat → ClassId) (M : sx_M0) (hT : tw M) (hr : rT M) : sx_Met SC l D tc y_Mo_all w_Mo_all (rmk 0 0) [sx_A (53)] GL M (fun r G' M' => G' = GL ∧ M' = M ∧ r = some (sx_I ((2 ^ (M 1 0).toNat - 1 : Nat) : Int))) := by
  refine sx_enter (by decide) rfl (Nat.le_of_ble_eq_true rfl) (Ts := g_tbl) (fun _ h => List.mem_cons_of_mem _ h) (fun E C Rr hnm hnL => ?_)
  have g0 := hT.1
  have g1 := hT.2.1
  have r0 := hr.1
  have r1 := hr.2.1
  refine sx_iconst C d_Mo_all_0 ?_
  refine sx_aload_n C 0 d_Mo_all_1 rfl rfl ?_
  refine sx_geti C f_Mo_73 (by decide) rfl d_Mo_all_2 ?_
  rw [show M 53 0 = (((M 1 0).toNat : Nat) : Int) by omega]
  refine sx_ishl C d_Mo_all_5 ?_
  have hp7 := pow_7 (M 1 0).toNat (by omega)
  rw [shl_bit7 (M 1 0).toNat (by omega)]
  refine sx_iconst C d_Mo_all_6 ?_
  refine sx_isub C d_Mo_all_7 ?_
  refine sx_ireturn C Rr rfl d_Mo_all_8 ?_
  refine ⟨rfl, rfl, ?_⟩
  congr 2; omega
set_option maxRecDepth 100000 in
set_option maxHeartbeats 4000000 in
theorem lp_Mo_count  (M : sx_M0) (hT : tw M) (hr : rT M) (hA : ∀ d, d < 6 → 0 ≤ M 66 d ∧ M 66 d ≤ 150) {E : sx_E} (C : sx_C SC g_tbl "SiteChoiceModel" c_Mo_count E) (Rr : sx_Ret SC (some .int) (rmk 0 0) (fun r G' M' => G' = GL ∧ M' = M ∧ ∃ z : Int, r = some (sx_I z) ∧ (0 ≤ z ∧ z ≤ 6) ∧ (z = 0 ↔ ∀ d, d < (M 1 0).toNat → ¬ 0 < M 66 d)) E) (hnL : sx_nL E = 3) : ∀ (nF : Nat) (d : Nat) (z : Int), (M 1 0).toNat - d < nF → (0 ≤ z ∧ z ≤ (d : Int)) → (z = 0 ↔ ∀ e, e < d → ¬ 0 < M 66 e) → d ≤ (M 1 0).toNat → sx_X SC E (0, 0) GL M 4 [(2, sx_I (((d : Nat) : Int))), (1, sx_I (z)), (0, sx_A (53))] [] := by
  intro nF
  induction nF with
  | zero => intro d z h; omega
  | succ nF ih =>
    intro d z hn h1 h2 h3
    have g0 := hT.1
    have g1 := hT.2.1
    have r0 := hr.1
    have r1 := hr.2.1
    refine sx_iload_n C 0 d_Mo_count_4 rfl rfl ?_
    refine sx_aload_n C 2 d_Mo_count_5 rfl rfl ?_
    refine sx_geti C f_Mo_73 (by decide) rfl d_Mo_count_6 ?_
    refine sx_icmp_ge C 37 ⟨by omega, by omega⟩ ⟨by omega, by omega⟩ d_Mo_count_9 (by decide) (fun c9 => ?_) (fun c9 => ?_)
    · refine sx_iload_n C 1 d_Mo_count_37 rfl rfl ?_
      refine sx_ireturn C Rr rfl d_Mo_count_38 ?_
      have e : d = (M 1 0).toNat := by omega
      rw [e] at h2
      exact ⟨rfl, rfl, z, rfl, by omega, h2⟩
    · have q1 := hA d (by omega)
      refine sx_aload_n C 2 d_Mo_count_12 rfl rfl ?_
      refine sx_getr C f_Mo_54 66 (by decide) rfl rfl d_Mo_count_13 ?_
      refine sx_iload_n C 0 d_Mo_count_16 rfl rfl ?_
      refine sx_laload C d (by decide) rfl rfl rfl (by omega) (by decide) d_Mo_count_17 ?_
      refine sx_lconst C 0 rfl d_Mo_count_18 ?_
      refine sx_lcmp_le C 29 ⟨by omega, by omega⟩ ⟨by omega, by omega⟩ d_Mo_count_19 d_Mo_count_20 (by decide) (fun c20 => ?_) (fun c20 => ?_)
      · refine sx_iload_n C 1 d_Mo_count_29 rfl rfl ?_
        refine sx_istore_n (lv' := [(1, sx_I (z)), (2, sx_I (((d : Nat) : Int))), (0, sx_A (53))]) C d_Mo_count_30 rfl (by rw [hnL]; decide) rfl ?_
        refine sx_iinc (lv' := [(2, sx_I (((d + 1 : Nat) : Int))), (1, sx_I (z)), (0, sx_A (53))]) C 1 d_Mo_count_31 rfl (by rw [hnL]; decide) rfl ?_
        refine sx_goto C 4 d_Mo_count_34 (by decide) ?_
        refine sx_sub [0, 1, 2] rfl ?_
        exact ih (d + 1) z (by omega) (by omega) ⟨fun y e he => by rcases Nat.lt_or_ge e d with y2 | y2; exact h2.mp y e y2; rw [show e = d by omega]; omega, fun y => h2.mpr (fun e he => y e (by omega))⟩ (by omega)
      · refine sx_iload_n C 1 d_Mo_count_23 rfl rfl ?_
        refine sx_iconst C d_Mo_count_24 ?_
        refine sx_iadd C d_Mo_count_25 ?_
        refine sx_goto C 30 d_Mo_count_26 (by decide) ?_
        refine sx_istore_n (lv' := [(1, sx_I (z + 1)), (2, sx_I (((d : Nat) : Int))), (0, sx_A (53))]) C d_Mo_count_30 rfl (by rw [hnL]; decide) rfl ?_
        refine sx_iinc (lv' := [(2, sx_I (((d + 1 : Nat) : Int))), (1, sx_I (z + 1)), (0, sx_A (53))]) C 1 d_Mo_count_31 rfl (by rw [hnL]; decide) rfl ?_
        refine sx_goto C 4 d_Mo_count_34 (by decide) ?_
        refine sx_sub [0, 1, 2] rfl ?_
        exact ih (d + 1) _ (by omega) (by omega) ⟨fun y => by omega, fun y => absurd (show 0 < M 66 d by omega) (y d (Nat.lt_succ_self d))⟩ (by omega)
set_option maxRecDepth 100000 in
set_option maxHeartbeats 4000000 in
theorem ct_Mo_count (l : Launch) (D : va_G) (tc : Nat → ClassId) (M : sx_M0) (hT : tw M) (hr : rT M) (hA : ∀ d, d < 6 → 0 ≤ M 66 d ∧ M 66 d ≤ 150) : sx_Met SC l D tc y_Mo_count w_Mo_count (rmk 0 0) [sx_A (53)] GL M (fun r G' M' => G' = GL ∧ M' = M ∧ ∃ z : Int, r = some (sx_I z) ∧ (0 ≤ z ∧ z ≤ 6) ∧ (z = 0 ↔ ∀ d, d < (M 1 0).toNat → ¬ 0 < M 66 d)) := by
  refine sx_enter (by decide) rfl (Nat.le_of_ble_eq_true rfl) (Ts := g_tbl) (fun _ h => List.mem_cons_of_mem _ h) (fun E C Rr hnm hnL => ?_)
  refine sx_iconst C d_Mo_count_0 ?_
  refine sx_istore_n (lv' := [(1, sx_I (0)), (0, sx_A (53))]) C d_Mo_count_1 rfl (by rw [hnL]; decide) rfl ?_
  refine sx_iconst C d_Mo_count_2 ?_
  refine sx_istore_n (lv' := [(2, sx_I (0)), (1, sx_I (0)), (0, sx_A (53))]) C d_Mo_count_3 rfl (by rw [hnL]; decide) rfl ?_
  refine sx_sub [0, 1, 2] rfl ?_
  exact lp_Mo_count M hT hr hA C Rr hnL _ 0 0 (Nat.lt_succ_self _) (by omega) ⟨fun _ e he => absurd he (Nat.not_lt_zero e), fun _ => rfl⟩ (Nat.zero_le _)
def akS (M : sx_M0) (u y : Nat) (d : Nat) : Int := if (d : Int) < M 1 0 ∧ u.testBit d = true then M 2 d + (y : Int) * (M 2 d / 10) else 0
def trS (a : Nat → Int) (d : Nat) : Int := if 0 < a d then 0 else -1
def akI (M : sx_M0) (u y n : Nat) : sx_M0 := fun a b => if a = 66 ∧ b < n then akS M u y b else if a = 65 ∧ b < n then trS (akS M u y) b else M a b
theorem ak_0 {M : sx_M0} {u y : Nat} : akI M u y 0 = M := by
  funext a b
  simp [akI]
theorem ak_ne {M : sx_M0} {u y n a : Nat} (h1 : a ≠ 65) (h2 : a ≠ 66) : akI M u y n a = M a := by
  funext b
  simp [akI, h1, h2]
theorem ak_66 {M : sx_M0} {u y n b : Nat} (h : b < n) : akI M u y n 66 b = akS M u y b := by simp [akI, h]
theorem ak_65 {M : sx_M0} {u y n b : Nat} (h : b < n) : akI M u y n 65 b = trS (akS M u y) b := by simp [akI, h]
theorem ak_up {M : sx_M0} {u y n : Nat} {x z : Int} (hx : x = akS M u y n) (hz : z = trS (akS M u y) n) : sx_up (sx_up (akI M u y n) 66 n x) 65 n z = akI M u y (n + 1) := by
  funext a b
  subst hx
  subst hz
  unfold sx_up akI
  by_cases e : b = n
  · subst e
    by_cases h : a = 66
    · simp [h]
    · by_cases h2 : a = 65
      · simp [h2]
      · simp [h, h2]
  · have e2 : b < n + 1 ↔ b < n := by omega
    simp [e, e2]
theorem akS_bd {M : sx_M0} (hT : tw M) {u y d : Nat} (hy : y ≤ 5) (hd : d < 6) : 0 ≤ akS M u y d ∧ akS M u y d ≤ 150 := by
  unfold akS
  have q := hT.2.2.2.1 d hd
  have := ny_bd (x := M 2 d) (y := (y : Int)) q.1 q.2 (by omega) (by omega)
  split <;> omega
theorem tr_bd {a : Nat → Int} {d : Nat} : -1 ≤ trS a d ∧ trS a d ≤ 0 := by
  unfold trS
  split <;> omega
set_option maxRecDepth 100000 in
set_option maxHeartbeats 4000000 in
theorem lp_Mo_askFor  (M : sx_M0) (hT : tw M) (hr : rT M) (u y : Nat) (hu : u < 64) (hy : y ≤ 5) {E : sx_E} (C : sx_C SC g_tbl "SiteChoiceModel" c_Mo_askFor E) (Rr : sx_Ret SC none (rmk 1 40) (fun r G' M' => G' = GL ∧ M' = akI M u y 6 ∧ r = none) E) (hnL : sx_nL E = 5) : ∀ (nF : Nat) (d : Nat), 6 - d < nF → d ≤ 6 → sx_X SC E (0, 0) GL (akI M u y d) 2 [(3, sx_I (((d : Nat) : Int))), (0, sx_A (53)), (1, sx_I (((u : Nat) : Int))), (2, sx_I (((y : Nat) : Int)))] [] := by
  intro nF
  induction nF with
  | zero => intro d h; omega
  | succ nF ih =>
    intro d hn h1
    have g0 := hT.1
    have g1 := hT.2.1
    have r0 := hr.1
    have r1 := hr.2.1
    refine sx_iload_n C 0 d_Mo_askFor_2 rfl rfl ?_
    refine sx_bipush C d_Mo_askFor_3 (by decide) ?_
    refine sx_icmp_ge C 94 ⟨by omega, by omega⟩ ⟨by omega, by omega⟩ d_Mo_askFor_5 (by decide) (fun c5 => ?_) (fun c5 => ?_)
    · refine sx_return C Rr rfl d_Mo_askFor_94 ?_
      rw [show d = 6 by omega]
      exact ⟨rfl, rfl, rfl⟩
    · have q1 := hT.2.2.2.1 d (by omega)
      have q2 := ny_bd (x := M 2 d) (y := (y : Int)) q1.1 q1.2 (by omega) (by omega)
      refine sx_iload_n C 0 d_Mo_askFor_8 rfl rfl ?_
      refine sx_aload_n C 1 d_Mo_askFor_9 rfl rfl ?_
      refine sx_geti C f_Mo_73 (by decide) rfl d_Mo_askFor_10 ?_
      rw [show akI M u y d 53 0 = M 1 0 from by rw [ak_ne (by decide) (by decide)]; exact r0]
      refine sx_icmp_ge C 28 ⟨by omega, by omega⟩ ⟨by omega, by omega⟩ d_Mo_askFor_13 (by decide) (fun c13 => ?_) (fun c13 => ?_)
      · refine sx_iconst C d_Mo_askFor_28 ?_
        refine sx_istore (lv' := [(4, sx_I (0)), (3, sx_I (((d : Nat) : Int))), (0, sx_A (53)), (1, sx_I (((u : Nat) : Int))), (2, sx_I (((y : Nat) : Int)))]) C d_Mo_askFor_29 (by rw [hnL]; decide) rfl ?_
        refine sx_aload_n C 2 d_Mo_askFor_31 rfl rfl ?_
        refine sx_getr C f_Mo_54 66 (by decide) rfl rfl d_Mo_askFor_32 ?_
        refine sx_iload_n C 1 d_Mo_askFor_35 rfl rfl ?_
        refine sx_iload C 0 d_Mo_askFor_36 rfl ?_
        refine sx_if_eq C 64 ⟨by omega, by omega⟩ d_Mo_askFor_38 (by decide) (fun c38 => ?_) (fun c38 => ?_)
        · refine sx_lconst C 0 rfl d_Mo_askFor_64 ?_
          refine sx_lastore C d (by decide) rfl rfl rfl (by omega) (by decide) d_Mo_askFor_65 ?_
          refine sx_aload_n C 2 d_Mo_askFor_66 rfl rfl ?_
          refine sx_getr C f_Mo_51 65 (by decide) rfl rfl d_Mo_askFor_67 ?_
          refine sx_iload_n C 1 d_Mo_askFor_70 rfl rfl ?_
          refine sx_aload_n C 2 d_Mo_askFor_71 rfl rfl ?_
          refine sx_getr C f_Mo_54 66 (by decide) rfl rfl d_Mo_askFor_72 ?_
          refine sx_iload_n C 1 d_Mo_askFor_75 rfl rfl ?_
          refine sx_laload C d (by decide) rfl rfl rfl (by omega) (by decide) d_Mo_askFor_76 ?_
          rw [sx_up_at]
          refine sx_lconst C 0 rfl d_Mo_askFor_77 ?_
          refine sx_lcmp_le C 86 ⟨by omega, by omega⟩ ⟨by omega, by omega⟩ d_Mo_askFor_78 d_Mo_askFor_79 (by decide) (fun c79 => ?_) (fun c79 => ?_)
          · refine sx_iconst C d_Mo_askFor_86 ?_
            refine sx_iastore C d (by decide) rfl rfl rfl (by omega) (by decide) d_Mo_askFor_87 ?_
            refine sx_iinc (lv' := [(3, sx_I (((d + 1 : Nat) : Int))), (4, sx_I (0)), (0, sx_A (53)), (1, sx_I (((u : Nat) : Int))), (2, sx_I (((y : Nat) : Int)))]) C 1 d_Mo_askFor_88 rfl (by rw [hnL]; decide) rfl ?_
            refine sx_goto C 2 d_Mo_askFor_91 (by decide) ?_
            have hx : (0) = akS M u y d := by
              unfold akS
              first
              | (rw [if_pos ⟨by omega, by rcases hb18 with ⟨z1, z2⟩ | ⟨z1, z2⟩; (exact z2); (exfalso; omega)⟩]; done)
              | (rw [if_neg (fun z => by rcases hb18 with ⟨z1, z2⟩ | ⟨z1, z2⟩; (omega); (exact z2 z.2))]; done)
              | (rw [if_neg (fun z => by have := z.1; omega)]; done)
              | (exfalso; omega)
            have hz : ((-1)) = trS (akS M u y) d := by
              unfold trS
              rw [← hx]
              first | (rw [if_pos (by omega)]; done) | (rw [if_neg (by omega)]; done) | (exfalso; omega)
            rw [ak_up hx hz]
            refine sx_sub [0, 2, 3, 4] rfl ?_
            exact ih (d + 1) (by omega) (by omega)
          · refine sx_iconst C d_Mo_askFor_82 ?_
            refine sx_goto C 87 d_Mo_askFor_83 (by decide) ?_
            refine sx_iastore C d (by decide) rfl rfl rfl (by omega) (by decide) d_Mo_askFor_87 ?_
            refine sx_iinc (lv' := [(3, sx_I (((d + 1 : Nat) : Int))), (4, sx_I (0)), (0, sx_A (53)), (1, sx_I (((u : Nat) : Int))), (2, sx_I (((y : Nat) : Int)))]) C 1 d_Mo_askFor_88 rfl (by rw [hnL]; decide) rfl ?_
            refine sx_goto C 2 d_Mo_askFor_91 (by decide) ?_
            have hx : (0) = akS M u y d := by
              unfold akS
              first
              | (rw [if_pos ⟨by omega, by rcases hb18 with ⟨z1, z2⟩ | ⟨z1, z2⟩; (exact z2); (exfalso; omega)⟩]; done)
              | (rw [if_neg (fun z => by rcases hb18 with ⟨z1, z2⟩ | ⟨z1, z2⟩; (omega); (exact z2 z.2))]; done)
              | (rw [if_neg (fun z => by have := z.1; omega)]; done)
              | (exfalso; omega)
            have hz : (0) = trS (akS M u y) d := by
              unfold trS
              rw [← hx]
              first | (rw [if_pos (by omega)]; done) | (rw [if_neg (by omega)]; done) | (exfalso; omega)
            rw [ak_up hx hz]
            refine sx_sub [0, 2, 3, 4] rfl ?_
            exact ih (d + 1) (by omega) (by omega)
        · exfalso; omega
      · refine sx_iload_n C 2 d_Mo_askFor_16 rfl rfl ?_
        refine sx_iload_n C 0 d_Mo_askFor_17 rfl rfl ?_
        refine sx_callS (n := 71) (As := [sx_I (((u : Nat) : Int)), sx_I (((d : Nat) : Int))]) (st := []) C (ct_Mo_has _ _ _ (akI M u y d) u d (by omega) (by omega)) (cv_Mo_105 E C _ (by rw [Rr.2.2]; decide)) (Nat.le_of_ble_eq_true rfl) d_Mo_askFor_18 (by rw [Rr.2.2]; decide) (by decide) rfl rfl rfl (fun r18 G18 M18 hpo _ => ?_)
        obtain ⟨e1, e2, b18, rfl, hb18⟩ := hpo
        rw [e1, e2]
        show sx_X SC E (0, 0) GL (akI M u y d) 21 [(3, sx_I (((d : Nat) : Int))), (0, sx_A (53)), (1, sx_I (((u : Nat) : Int))), (2, sx_I (((y : Nat) : Int)))] [sx_I (b18)]
        refine sx_if_eq C 28 ⟨by omega, by omega⟩ d_Mo_askFor_21 (by decide) (fun c21 => ?_) (fun c21 => ?_)
        · refine sx_iconst C d_Mo_askFor_28 ?_
          refine sx_istore (lv' := [(4, sx_I (0)), (3, sx_I (((d : Nat) : Int))), (0, sx_A (53)), (1, sx_I (((u : Nat) : Int))), (2, sx_I (((y : Nat) : Int)))]) C d_Mo_askFor_29 (by rw [hnL]; decide) rfl ?_
          refine sx_aload_n C 2 d_Mo_askFor_31 rfl rfl ?_
          refine sx_getr C f_Mo_54 66 (by decide) rfl rfl d_Mo_askFor_32 ?_
          refine sx_iload_n C 1 d_Mo_askFor_35 rfl rfl ?_
          refine sx_iload C 0 d_Mo_askFor_36 rfl ?_
          refine sx_if_eq C 64 ⟨by omega, by omega⟩ d_Mo_askFor_38 (by decide) (fun c38 => ?_) (fun c38 => ?_)
          · refine sx_lconst C 0 rfl d_Mo_askFor_64 ?_
            refine sx_lastore C d (by decide) rfl rfl rfl (by omega) (by decide) d_Mo_askFor_65 ?_
            refine sx_aload_n C 2 d_Mo_askFor_66 rfl rfl ?_
            refine sx_getr C f_Mo_51 65 (by decide) rfl rfl d_Mo_askFor_67 ?_
            refine sx_iload_n C 1 d_Mo_askFor_70 rfl rfl ?_
            refine sx_aload_n C 2 d_Mo_askFor_71 rfl rfl ?_
            refine sx_getr C f_Mo_54 66 (by decide) rfl rfl d_Mo_askFor_72 ?_
            refine sx_iload_n C 1 d_Mo_askFor_75 rfl rfl ?_
            refine sx_laload C d (by decide) rfl rfl rfl (by omega) (by decide) d_Mo_askFor_76 ?_
            rw [sx_up_at]
            refine sx_lconst C 0 rfl d_Mo_askFor_77 ?_
            refine sx_lcmp_le C 86 ⟨by omega, by omega⟩ ⟨by omega, by omega⟩ d_Mo_askFor_78 d_Mo_askFor_79 (by decide) (fun c79 => ?_) (fun c79 => ?_)
            · refine sx_iconst C d_Mo_askFor_86 ?_
              refine sx_iastore C d (by decide) rfl rfl rfl (by omega) (by decide) d_Mo_askFor_87 ?_
              refine sx_iinc (lv' := [(3, sx_I (((d + 1 : Nat) : Int))), (4, sx_I (0)), (0, sx_A (53)), (1, sx_I (((u : Nat) : Int))), (2, sx_I (((y : Nat) : Int)))]) C 1 d_Mo_askFor_88 rfl (by rw [hnL]; decide) rfl ?_
              refine sx_goto C 2 d_Mo_askFor_91 (by decide) ?_
              have hx : (0) = akS M u y d := by
                unfold akS
                first
                | (rw [if_pos ⟨by omega, by rcases hb18 with ⟨z1, z2⟩ | ⟨z1, z2⟩; (exact z2); (exfalso; omega)⟩]; done)
                | (rw [if_neg (fun z => by rcases hb18 with ⟨z1, z2⟩ | ⟨z1, z2⟩; (omega); (exact z2 z.2))]; done)
                | (rw [if_neg (fun z => by have := z.1; omega)]; done)
                | (exfalso; omega)
              have hz : ((-1)) = trS (akS M u y) d := by
                unfold trS
                rw [← hx]
                first | (rw [if_pos (by omega)]; done) | (rw [if_neg (by omega)]; done) | (exfalso; omega)
              rw [ak_up hx hz]
              refine sx_sub [0, 2, 3, 4] rfl ?_
              exact ih (d + 1) (by omega) (by omega)
            · refine sx_iconst C d_Mo_askFor_82 ?_
              refine sx_goto C 87 d_Mo_askFor_83 (by decide) ?_
              refine sx_iastore C d (by decide) rfl rfl rfl (by omega) (by decide) d_Mo_askFor_87 ?_
              refine sx_iinc (lv' := [(3, sx_I (((d + 1 : Nat) : Int))), (4, sx_I (0)), (0, sx_A (53)), (1, sx_I (((u : Nat) : Int))), (2, sx_I (((y : Nat) : Int)))]) C 1 d_Mo_askFor_88 rfl (by rw [hnL]; decide) rfl ?_
              refine sx_goto C 2 d_Mo_askFor_91 (by decide) ?_
              have hx : (0) = akS M u y d := by
                unfold akS
                first
                | (rw [if_pos ⟨by omega, by rcases hb18 with ⟨z1, z2⟩ | ⟨z1, z2⟩; (exact z2); (exfalso; omega)⟩]; done)
                | (rw [if_neg (fun z => by rcases hb18 with ⟨z1, z2⟩ | ⟨z1, z2⟩; (omega); (exact z2 z.2))]; done)
                | (rw [if_neg (fun z => by have := z.1; omega)]; done)
                | (exfalso; omega)
              have hz : (0) = trS (akS M u y) d := by
                unfold trS
                rw [← hx]
                first | (rw [if_pos (by omega)]; done) | (rw [if_neg (by omega)]; done) | (exfalso; omega)
              rw [ak_up hx hz]
              refine sx_sub [0, 2, 3, 4] rfl ?_
              exact ih (d + 1) (by omega) (by omega)
          · exfalso; omega
        · refine sx_iconst C d_Mo_askFor_24 ?_
          refine sx_goto C 29 d_Mo_askFor_25 (by decide) ?_
          refine sx_istore (lv' := [(4, sx_I (1)), (3, sx_I (((d : Nat) : Int))), (0, sx_A (53)), (1, sx_I (((u : Nat) : Int))), (2, sx_I (((y : Nat) : Int)))]) C d_Mo_askFor_29 (by rw [hnL]; decide) rfl ?_
          refine sx_aload_n C 2 d_Mo_askFor_31 rfl rfl ?_
          refine sx_getr C f_Mo_54 66 (by decide) rfl rfl d_Mo_askFor_32 ?_
          refine sx_iload_n C 1 d_Mo_askFor_35 rfl rfl ?_
          refine sx_iload C 0 d_Mo_askFor_36 rfl ?_
          refine sx_if_eq C 64 ⟨by omega, by omega⟩ d_Mo_askFor_38 (by decide) (fun c38 => ?_) (fun c38 => ?_)
          · exfalso; omega
          · refine sx_aload_n C 2 d_Mo_askFor_41 rfl rfl ?_
            refine sx_getr C f_Mo_7 54 (by decide) rfl rfl d_Mo_askFor_42 ?_
            refine sx_iload_n C 1 d_Mo_askFor_45 rfl rfl ?_
            refine sx_laload C d (by decide) rfl rfl rfl (by omega) (by decide) d_Mo_askFor_46 ?_
            rw [show akI M u y d 54 d = M 2 d from by rw [ak_ne (by decide) (by decide)]; exact hr.2.2.2.1 d (by omega)]
            refine sx_iload_n C 4 d_Mo_askFor_47 rfl rfl ?_
            refine sx_i2l C ⟨by omega, by omega⟩ d_Mo_askFor_48 ?_
            refine sx_aload_n C 2 d_Mo_askFor_49 rfl rfl ?_
            refine sx_getr C f_Mo_7 54 (by decide) rfl rfl d_Mo_askFor_50 ?_
            refine sx_iload_n C 1 d_Mo_askFor_53 rfl rfl ?_
            refine sx_laload C d (by decide) rfl rfl rfl (by omega) (by decide) d_Mo_askFor_54 ?_
            rw [show akI M u y d 54 d = M 2 d from by rw [ak_ne (by decide) (by decide)]; exact hr.2.2.2.1 d (by omega)]
            refine sx_ldc2 (v := (10)) C (10) (tb_ 671 (by decide +kernel) rfl) (by decide) d_Mo_askFor_55 ?_
            refine sx_ldiv C (by omega) ⟨by omega, by omega⟩ (by omega) ⟨by omega, by omega⟩ d_Mo_askFor_58 ?_
            refine sx_lmul C d_Mo_askFor_59 ?_
            refine sx_ladd C d_Mo_askFor_60 ?_
            refine sx_goto C 65 d_Mo_askFor_61 (by decide) ?_
            refine sx_lastore C d (by decide) rfl rfl rfl (by omega) (by decide) d_Mo_askFor_65 ?_
            refine sx_aload_n C 2 d_Mo_askFor_66 rfl rfl ?_
            refine sx_getr C f_Mo_51 65 (by decide) rfl rfl d_Mo_askFor_67 ?_
            refine sx_iload_n C 1 d_Mo_askFor_70 rfl rfl ?_
            refine sx_aload_n C 2 d_Mo_askFor_71 rfl rfl ?_
            refine sx_getr C f_Mo_54 66 (by decide) rfl rfl d_Mo_askFor_72 ?_
            refine sx_iload_n C 1 d_Mo_askFor_75 rfl rfl ?_
            refine sx_laload C d (by decide) rfl rfl rfl (by omega) (by decide) d_Mo_askFor_76 ?_
            rw [sx_up_at]
            refine sx_lconst C 0 rfl d_Mo_askFor_77 ?_
            refine sx_lcmp_le C 86 ⟨by omega, by omega⟩ ⟨by omega, by omega⟩ d_Mo_askFor_78 d_Mo_askFor_79 (by decide) (fun c79 => ?_) (fun c79 => ?_)
            · refine sx_iconst C d_Mo_askFor_86 ?_
              refine sx_iastore C d (by decide) rfl rfl rfl (by omega) (by decide) d_Mo_askFor_87 ?_
              refine sx_iinc (lv' := [(3, sx_I (((d + 1 : Nat) : Int))), (4, sx_I (1)), (0, sx_A (53)), (1, sx_I (((u : Nat) : Int))), (2, sx_I (((y : Nat) : Int)))]) C 1 d_Mo_askFor_88 rfl (by rw [hnL]; decide) rfl ?_
              refine sx_goto C 2 d_Mo_askFor_91 (by decide) ?_
              have hx : ((M 2 d) + (((y : Nat) : Int) * ((M 2 d) / 10))) = akS M u y d := by
                unfold akS
                first
                | (rw [if_pos ⟨by omega, by rcases hb18 with ⟨z1, z2⟩ | ⟨z1, z2⟩; (exact z2); (exfalso; omega)⟩]; done)
                | (rw [if_neg (fun z => by rcases hb18 with ⟨z1, z2⟩ | ⟨z1, z2⟩; (omega); (exact z2 z.2))]; done)
                | (rw [if_neg (fun z => by have := z.1; omega)]; done)
                | (exfalso; omega)
              have hz : ((-1)) = trS (akS M u y) d := by
                unfold trS
                rw [← hx]
                first | (rw [if_pos (by omega)]; done) | (rw [if_neg (by omega)]; done) | (exfalso; omega)
              rw [ak_up hx hz]
              refine sx_sub [0, 2, 3, 4] rfl ?_
              exact ih (d + 1) (by omega) (by omega)
            · refine sx_iconst C d_Mo_askFor_82 ?_
              refine sx_goto C 87 d_Mo_askFor_83 (by decide) ?_
              refine sx_iastore C d (by decide) rfl rfl rfl (by omega) (by decide) d_Mo_askFor_87 ?_
              refine sx_iinc (lv' := [(3, sx_I (((d + 1 : Nat) : Int))), (4, sx_I (1)), (0, sx_A (53)), (1, sx_I (((u : Nat) : Int))), (2, sx_I (((y : Nat) : Int)))]) C 1 d_Mo_askFor_88 rfl (by rw [hnL]; decide) rfl ?_
              refine sx_goto C 2 d_Mo_askFor_91 (by decide) ?_
              have hx : ((M 2 d) + (((y : Nat) : Int) * ((M 2 d) / 10))) = akS M u y d := by
                unfold akS
                first
                | (rw [if_pos ⟨by omega, by rcases hb18 with ⟨z1, z2⟩ | ⟨z1, z2⟩; (exact z2); (exfalso; omega)⟩]; done)
                | (rw [if_neg (fun z => by rcases hb18 with ⟨z1, z2⟩ | ⟨z1, z2⟩; (omega); (exact z2 z.2))]; done)
                | (rw [if_neg (fun z => by have := z.1; omega)]; done)
                | (exfalso; omega)
              have hz : (0) = trS (akS M u y) d := by
                unfold trS
                rw [← hx]
                first | (rw [if_pos (by omega)]; done) | (rw [if_neg (by omega)]; done) | (exfalso; omega)
              rw [ak_up hx hz]
              refine sx_sub [0, 2, 3, 4] rfl ?_
              exact ih (d + 1) (by omega) (by omega)
set_option maxRecDepth 100000 in
set_option maxHeartbeats 4000000 in
theorem ct_Mo_askFor (l : Launch) (D : va_G) (tc : Nat → ClassId) (M : sx_M0) (hT : tw M) (hr : rT M) (u y : Nat) (hu : u < 64) (hy : y ≤ 5) : sx_Met SC l D tc y_Mo_askFor w_Mo_askFor (rmk 1 40) [sx_A (53), sx_I (((u : Nat) : Int)), sx_I (((y : Nat) : Int))] GL M (fun r G' M' => G' = GL ∧ M' = akI M u y 6 ∧ r = none) := by
  refine sx_enter (by decide) rfl (Nat.le_of_ble_eq_true rfl) (Ts := g_tbl) (fun _ h => List.mem_cons_of_mem _ h) (fun E C Rr hnm hnL => ?_)
  refine sx_iconst C d_Mo_askFor_0 ?_
  refine sx_istore_n (lv' := [(3, sx_I (0)), (0, sx_A (53)), (1, sx_I (((u : Nat) : Int))), (2, sx_I (((y : Nat) : Int)))]) C d_Mo_askFor_1 rfl (by rw [hnL]; decide) rfl ?_
  refine sx_sub [0, 1, 2, 3] rfl ?_
  have h0 := lp_Mo_askFor M hT hr u y hu hy C Rr hnL _ 0 (Nat.lt_succ_self _) (by decide)
  rw [ak_0] at h0
  exact h0
def psF (g : Nat → Int) : Nat → Nat
  | 0 => 0
  | d + 1 => if 0 ≤ g d then psF g d ||| 2 ^ (g d).toNat else psF g d
theorem ps_lt {g : Nat → Int} : ∀ {n : Nat}, (∀ d, d < n → g d ≤ 4) → psF g n < 32
  | 0, _ => by show 0 < 32; decide
  | n + 1, h => by
    have q := ps_lt (n := n) (fun d hd => h d (by omega))
    have q2 := h n (by omega)
    show (if 0 ≤ g n then psF g n ||| 2 ^ (g n).toNat else psF g n) < 32
    split
    · exact (or_bit _ q (g n).toNat (by omega)).2
    · exact q
def smF (M : sx_M0) (ak g : Nat → Int) : Nat → Int
  | 0 => 0
  | d + 1 => smF M ak g d + (if 0 ≤ g d then ak d * M (4 + 1 + d) (g d).toNat else 0)
set_option maxRecDepth 100000 in
set_option maxHeartbeats 4000000 in
theorem lp_Mo_placesOf  (M : sx_M0) (hT : tw M) (hr : rT M) (c : Nat) (hc : c < GL.1) (hcs : GL.2.1 c = (1, 6)) (hg : ∀ d, d < (M 1 0).toNat → -1 ≤ M c d ∧ M c d ≤ 4) {E : sx_E} (C : sx_C SC g_tbl "SiteChoiceModel" c_Mo_placesOf E) (Rr : sx_Ret SC (some .int) (rmk 0 0) (fun r G' M' => G' = GL ∧ M' = M ∧ r = some (sx_I ((psF (M c) (M 1 0).toNat : Nat) : Int))) E) (hnL : sx_nL E = 4) : ∀ (nF : Nat) (d : Nat), (M 1 0).toNat - d < nF → d ≤ (M 1 0).toNat → sx_X SC E (0, 0) GL M 4 [(3, sx_I (((d : Nat) : Int))), (2, sx_I (((psF (M c) d : Nat) : Int))), (0, sx_A (53)), (1, sx_A (c))] [] := by
  intro nF
  induction nF with
  | zero => intro d h; omega
  | succ nF ih =>
    intro d hn h1
    have g0 := hT.1
    have g1 := hT.2.1
    have r0 := hr.1
    have r1 := hr.2.1
    refine sx_iload_n C 0 d_Mo_placesOf_4 rfl rfl ?_
    refine sx_aload_n C 2 d_Mo_placesOf_5 rfl rfl ?_
    refine sx_geti C f_Mo_73 (by decide) rfl d_Mo_placesOf_6 ?_
    refine sx_icmp_ge C 36 ⟨by omega, by omega⟩ ⟨by omega, by omega⟩ d_Mo_placesOf_9 (by decide) (fun c9 => ?_) (fun c9 => ?_)
    · refine sx_iload_n C 1 d_Mo_placesOf_36 rfl rfl ?_
      refine sx_ireturn C Rr rfl d_Mo_placesOf_37 ?_
      rw [show d = (M 1 0).toNat by omega]
      exact ⟨rfl, rfl, rfl⟩
    · have q1 := hg d (by omega)
      refine sx_aload_n C 3 d_Mo_placesOf_12 rfl rfl ?_
      refine sx_iload_n C 0 d_Mo_placesOf_13 rfl rfl ?_
      refine sx_iaload C d hc hcs rfl rfl (by omega) (by decide) d_Mo_placesOf_14 ?_
      refine sx_if_lt C 28 ⟨by omega, by omega⟩ d_Mo_placesOf_15 (by decide) (fun c15 => ?_) (fun c15 => ?_)
      · refine sx_iload_n C 1 d_Mo_placesOf_28 rfl rfl ?_
        rw [show psF (M c) d = psF (M c) (d + 1) from (if_neg (by omega)).symm]
        refine sx_istore_n (lv' := [(2, sx_I ((((psF (M c) (d + 1)) : Nat) : Int))), (3, sx_I (((d : Nat) : Int))), (0, sx_A (53)), (1, sx_A (c))]) C d_Mo_placesOf_29 rfl (by rw [hnL]; decide) rfl ?_
        refine sx_iinc (lv' := [(3, sx_I (((d + 1 : Nat) : Int))), (2, sx_I ((((psF (M c) (d + 1)) : Nat) : Int))), (0, sx_A (53)), (1, sx_A (c))]) C 1 d_Mo_placesOf_30 rfl (by rw [hnL]; decide) rfl ?_
        refine sx_goto C 4 d_Mo_placesOf_33 (by decide) ?_
        refine sx_sub [0, 1, 2, 3] rfl ?_
        exact ih (d + 1) (by omega) (by omega)
      · refine sx_iload_n C 1 d_Mo_placesOf_18 rfl rfl ?_
        refine sx_iconst C d_Mo_placesOf_19 ?_
        refine sx_aload_n C 3 d_Mo_placesOf_20 rfl rfl ?_
        refine sx_iload_n C 0 d_Mo_placesOf_21 rfl rfl ?_
        refine sx_iaload C d hc hcs rfl rfl (by omega) (by decide) d_Mo_placesOf_22 ?_
        rw [show M c d = (((M c d).toNat : Nat) : Int) by omega]
        refine sx_ishl C d_Mo_placesOf_23 ?_
        refine sx_ior C d_Mo_placesOf_24 ?_
        refine sx_goto C 29 d_Mo_placesOf_25 (by decide) ?_
        rw [(or_bit (psF (M c) d) (ps_lt (fun e he => (hg e (by omega)).2)) (M c d).toNat (by omega)).1, show psF (M c) d ||| 2 ^ (M c d).toNat = psF (M c) (d + 1) from (if_pos (by omega)).symm]
        refine sx_istore_n (lv' := [(2, sx_I ((((psF (M c) (d + 1)) : Nat) : Int))), (3, sx_I (((d : Nat) : Int))), (0, sx_A (53)), (1, sx_A (c))]) C d_Mo_placesOf_29 rfl (by rw [hnL]; decide) rfl ?_
        refine sx_iinc (lv' := [(3, sx_I (((d + 1 : Nat) : Int))), (2, sx_I ((((psF (M c) (d + 1)) : Nat) : Int))), (0, sx_A (53)), (1, sx_A (c))]) C 1 d_Mo_placesOf_30 rfl (by rw [hnL]; decide) rfl ?_
        refine sx_goto C 4 d_Mo_placesOf_33 (by decide) ?_
        refine sx_sub [0, 1, 2, 3] rfl ?_
        exact ih (d + 1) (by omega) (by omega)
set_option maxRecDepth 100000 in
set_option maxHeartbeats 4000000 in
theorem ct_Mo_placesOf (l : Launch) (D : va_G) (tc : Nat → ClassId) (M : sx_M0) (hT : tw M) (hr : rT M) (c : Nat) (hc : c < GL.1) (hcs : GL.2.1 c = (1, 6)) (hg : ∀ d, d < (M 1 0).toNat → -1 ≤ M c d ∧ M c d ≤ 4) : sx_Met SC l D tc y_Mo_placesOf w_Mo_placesOf (rmk 0 0) [sx_A (53), sx_A (c)] GL M (fun r G' M' => G' = GL ∧ M' = M ∧ r = some (sx_I ((psF (M c) (M 1 0).toNat : Nat) : Int))) := by
  refine sx_enter (by decide) rfl (Nat.le_of_ble_eq_true rfl) (Ts := g_tbl) (fun _ h => List.mem_cons_of_mem _ h) (fun E C Rr hnm hnL => ?_)
  refine sx_iconst C d_Mo_placesOf_0 ?_
  refine sx_istore_n (lv' := [(2, sx_I (0)), (0, sx_A (53)), (1, sx_A (c))]) C d_Mo_placesOf_1 rfl (by rw [hnL]; decide) rfl ?_
  refine sx_iconst C d_Mo_placesOf_2 ?_
  refine sx_istore_n (lv' := [(3, sx_I (0)), (2, sx_I (0)), (0, sx_A (53)), (1, sx_A (c))]) C d_Mo_placesOf_3 rfl (by rw [hnL]; decide) rfl ?_
  refine sx_sub [0, 1, 2, 3] rfl ?_
  exact lp_Mo_placesOf M hT hr c hc hcs hg C Rr hnL _ 0 (Nat.lt_succ_self _) (Nat.zero_le _)
set_option maxRecDepth 100000 in
set_option maxHeartbeats 4000000 in
theorem lp_Mo_sumOf  (M : sx_M0) (hT : tw M) (hr : rT M) (c : Nat) (hc : c < GL.1) (hcs : GL.2.1 c = (1, 6)) (hg : ∀ d, d < (M 1 0).toNat → -1 ≤ M c d ∧ M c d ≤ 4) {E : sx_E} (C : sx_C SC g_tbl "SiteChoiceModel" c_Mo_sumOf E) (Rr : sx_Ret SC (some .long) (rmk 0 0) (fun r G' M' => G' = GL ∧ M' = M ∧ r = some (sx_J (smF M (M 66) (M c) (M 1 0).toNat))) E) (hnL : sx_nL E = 5) : ∀ (nF : Nat) (d : Nat), (M 1 0).toNat - d < nF → d ≤ (M 1 0).toNat → sx_X SC E (0, 0) GL M 5 [(4, sx_I (((d : Nat) : Int))), (2, sx_J (smF M (M 66) (M c) d)), (0, sx_A (53)), (1, sx_A (c))] [] := by
  intro nF
  induction nF with
  | zero => intro d h; omega
  | succ nF ih =>
    intro d hn h1
    have g0 := hT.1
    have g1 := hT.2.1
    have r0 := hr.1
    have r1 := hr.2.1
    refine sx_iload C 0 d_Mo_sumOf_5 rfl ?_
    refine sx_aload_n C 2 d_Mo_sumOf_7 rfl rfl ?_
    refine sx_geti C f_Mo_73 (by decide) rfl d_Mo_sumOf_8 ?_
    refine sx_icmp_ge C 56 ⟨by omega, by omega⟩ ⟨by omega, by omega⟩ d_Mo_sumOf_11 (by decide) (fun c11 => ?_) (fun c11 => ?_)
    · refine sx_lload_n C 1 d_Mo_sumOf_56 rfl rfl ?_
      refine sx_lreturn C Rr rfl d_Mo_sumOf_57 ?_
      rw [show d = (M 1 0).toNat by omega]
      exact ⟨rfl, rfl, rfl⟩
    · have q1 := hg d (by omega)
      refine sx_lload_n C 1 d_Mo_sumOf_14 rfl rfl ?_
      refine sx_aload_n C 3 d_Mo_sumOf_15 rfl rfl ?_
      refine sx_iload C 0 d_Mo_sumOf_16 rfl ?_
      refine sx_iaload C d hc hcs rfl rfl (by omega) (by decide) d_Mo_sumOf_18 ?_
      refine sx_if_lt C 47 ⟨by omega, by omega⟩ d_Mo_sumOf_19 (by decide) (fun c19 => ?_) (fun c19 => ?_)
      · refine sx_lconst C 0 rfl d_Mo_sumOf_47 ?_
        refine sx_ladd C d_Mo_sumOf_48 ?_
        rw [show (smF M (M 66) (M c) d) + 0 = smF M (M 66) (M c) (d + 1) from by show _ = smF M (M 66) (M c) d + (if 0 ≤ M c d then M 66 d * M (4 + 1 + d) (M c d).toNat else 0); rw [if_neg (by omega)]]
        refine sx_lstore_n (lv' := [(2, sx_J (smF M (M 66) (M c) (d + 1))), (4, sx_I (((d : Nat) : Int))), (0, sx_A (53)), (1, sx_A (c))]) C d_Mo_sumOf_49 rfl (by rw [hnL]; decide) rfl ?_
        refine sx_iinc (lv' := [(4, sx_I (((d + 1 : Nat) : Int))), (2, sx_J (smF M (M 66) (M c) (d + 1))), (0, sx_A (53)), (1, sx_A (c))]) C 1 d_Mo_sumOf_50 rfl (by rw [hnL]; decide) rfl ?_
        refine sx_goto C 5 d_Mo_sumOf_53 (by decide) ?_
        refine sx_sub [0, 1, 2, 3] rfl ?_
        exact ih (d + 1) (by omega) (by omega)
      · refine sx_aload_n C 2 d_Mo_sumOf_22 rfl rfl ?_
        refine sx_getr C f_Mo_54 66 (by decide) rfl rfl d_Mo_sumOf_23 ?_
        refine sx_iload C 0 d_Mo_sumOf_26 rfl ?_
        refine sx_laload C d (by decide) rfl rfl rfl (by omega) (by decide) d_Mo_sumOf_28 ?_
        refine sx_aload_n C 2 d_Mo_sumOf_29 rfl rfl ?_
        refine sx_getr C f_Mo_35 62 (by decide) rfl rfl d_Mo_sumOf_30 ?_
        refine sx_iconst C d_Mo_sumOf_33 ?_
        refine sx_iload C 0 d_Mo_sumOf_34 rfl ?_
        refine sx_imul C d_Mo_sumOf_36 ?_
        refine sx_aload_n C 3 d_Mo_sumOf_37 rfl rfl ?_
        refine sx_iload C 0 d_Mo_sumOf_38 rfl ?_
        refine sx_iaload C d hc hcs rfl rfl (by omega) (by decide) d_Mo_sumOf_40 ?_
        refine sx_iadd C d_Mo_sumOf_41 ?_
        refine sx_laload C (5 * d + (M c d).toNat) (by decide) rfl rfl (by omega) (by omega) (by decide) d_Mo_sumOf_42 ?_
        refine sx_lmul C d_Mo_sumOf_43 ?_
        refine sx_goto C 48 d_Mo_sumOf_44 (by decide) ?_
        refine sx_ladd C d_Mo_sumOf_48 ?_
        rw [show (smF M (M 66) (M c) d) + ((M 66 d) * (M 62 (5 * d + (M c d).toNat))) = smF M (M 66) (M c) (d + 1) from by show _ = smF M (M 66) (M c) d + (if 0 ≤ M c d then M 66 d * M (4 + 1 + d) (M c d).toNat else 0); rw [if_pos (by omega), ← hr.2.2.2.2.2.1 d (M c d).toNat (by omega) (by omega)]]
        refine sx_lstore_n (lv' := [(2, sx_J (smF M (M 66) (M c) (d + 1))), (4, sx_I (((d : Nat) : Int))), (0, sx_A (53)), (1, sx_A (c))]) C d_Mo_sumOf_49 rfl (by rw [hnL]; decide) rfl ?_
        refine sx_iinc (lv' := [(4, sx_I (((d + 1 : Nat) : Int))), (2, sx_J (smF M (M 66) (M c) (d + 1))), (0, sx_A (53)), (1, sx_A (c))]) C 1 d_Mo_sumOf_50 rfl (by rw [hnL]; decide) rfl ?_
        refine sx_goto C 5 d_Mo_sumOf_53 (by decide) ?_
        refine sx_sub [0, 1, 2, 3] rfl ?_
        exact ih (d + 1) (by omega) (by omega)
set_option maxRecDepth 100000 in
set_option maxHeartbeats 4000000 in
theorem ct_Mo_sumOf (l : Launch) (D : va_G) (tc : Nat → ClassId) (M : sx_M0) (hT : tw M) (hr : rT M) (c : Nat) (hc : c < GL.1) (hcs : GL.2.1 c = (1, 6)) (hg : ∀ d, d < (M 1 0).toNat → -1 ≤ M c d ∧ M c d ≤ 4) : sx_Met SC l D tc y_Mo_sumOf w_Mo_sumOf (rmk 0 0) [sx_A (53), sx_A (c)] GL M (fun r G' M' => G' = GL ∧ M' = M ∧ r = some (sx_J (smF M (M 66) (M c) (M 1 0).toNat))) := by
  refine sx_enter (by decide) rfl (Nat.le_of_ble_eq_true rfl) (Ts := g_tbl) (fun _ h => List.mem_cons_of_mem _ h) (fun E C Rr hnm hnL => ?_)
  refine sx_lconst C 0 rfl d_Mo_sumOf_0 ?_
  refine sx_lstore_n (lv' := [(2, sx_J (0)), (0, sx_A (53)), (1, sx_A (c))]) C d_Mo_sumOf_1 rfl (by rw [hnL]; decide) rfl ?_
  refine sx_iconst C d_Mo_sumOf_2 ?_
  refine sx_istore (lv' := [(4, sx_I (0)), (2, sx_J (0)), (0, sx_A (53)), (1, sx_A (c))]) C d_Mo_sumOf_3 (by rw [hnL]; decide) rfl ?_
  refine sx_sub [0, 1, 2, 3] rfl ?_
  exact lp_Mo_sumOf M hT hr c hc hcs hg C Rr hnL _ 0 (Nat.lt_succ_self _) (Nat.zero_le _)
