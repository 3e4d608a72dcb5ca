theorem tw_fr1 {M M' : sx_M0} (h : ∀ a, 1 ≤ a → a ≤ 16 → M' a = M a) (hT : tw M) : tw M' := by
  unfold tw at hT ⊢
  rw [h 1 (by decide) (by decide), h 2 (by decide) (by decide), h 3 (by decide) (by decide), h 11 (by decide) (by decide), h 12 (by decide) (by decide), h 13 (by decide) (by decide), h 14 (by decide) (by decide), h 15 (by decide) (by decide), h 16 (by decide) (by decide)]
  refine ⟨hT.1, hT.2.1, hT.2.2.1, hT.2.2.2.1, hT.2.2.2.2.1, fun d p hd hp => ?_, hT.2.2.2.2.2.2⟩
  rw [h (4 + 1 + d) (by omega) (by omega)]
  exact hT.2.2.2.2.2.1 d p hd hp
/-- what holds of the class's cells between calls -/
def ci (M : sx_M0) : Prop := tw M ∧ sv M ∧ hv M ∧ M 17 13 = 0 ∧ (∀ p, p < 5 → 0 ≤ M 19 p ∧ M 19 p ≤ 1000)
abbrev np (M : sx_M0) : sx_M0 := sx_up M 0 5 0
set_option maxRecDepth 100000 in
set_option maxHeartbeats 4000000 in
theorem ct_Si_district (l : Launch) (D : va_G) (tc : Nat → ClassId) (M : sx_M0) (hI : ci M) (x : Int) (hx : sx_r64 x) : sx_Met SC l D tc y_Si_district w_Si_district (rmk 3 120) [sx_A (0), sx_J (x)] GL M (fun r G' M' => G' = GL ∧ r = some (sx_I (if M 1 0 < 6 ∧ 0 ≤ x ∧ x ≤ 100 then M 1 0 else -1)) ∧ M' = if M 1 0 < 6 ∧ 0 ≤ x ∧ x ≤ 100 then adM (np M) x else M) := by
  refine sx_enter (by decide) rfl (Nat.le_of_ble_eq_true rfl) (Ts := g_tbl) (fun _ h => List.mem_cons_of_mem _ h) (fun E C Rr hnm hnL => ?_)
  have hT := hI.1
  have g0 := hT.1
  refine sx_aload_n C 0 d_Si_district_0 rfl rfl ?_
  refine sx_getr C f_Si_12 1 (by decide) rfl rfl d_Si_district_1 ?_
  refine sx_geti C f_Si_48 (by decide) rfl d_Si_district_4 ?_
  refine sx_bipush C d_Si_district_7 (by decide) ?_
  refine sx_icmp_ge C 23 ⟨by omega, by omega⟩ ⟨by omega, by omega⟩ d_Si_district_9 (by decide) (fun c9 => ?_) (fun c9 => ?_)
  · refine sx_iconst C d_Si_district_23 ?_
    refine sx_ireturn C Rr rfl d_Si_district_24 ?_
    exact ⟨rfl, by rw [if_neg (by omega)], by rw [if_neg (by omega)]⟩
  · refine sx_lload_n C 1 d_Si_district_12 rfl rfl ?_
    refine sx_lconst C 0 rfl d_Si_district_13 ?_
    refine sx_ldc2 (v := (100)) C (100) (tb_ 217 (by decide +kernel) rfl) (by decide) d_Si_district_14 ?_
    refine sx_callS (n := 71) (As := [sx_J (x), sx_J (0), sx_J (100)]) (st := []) C (ct_Si_isWithin _ _ _ M x 0 100 (by constructor <;> omega) (by constructor <;> omega) (by constructor <;> omega)) (cv_Si_54 E C _ (by rw [Rr.2.2]; decide)) (Nat.le_of_ble_eq_true rfl) d_Si_district_17 (by rw [Rr.2.2]; decide) (by decide) rfl rfl rfl (fun r17 G17 M17 hpo _ => ?_)
    obtain ⟨e1, e2, b17, rfl, hb17⟩ := hpo
    rw [e1, e2]
    show sx_X SC E (0, 0) GL M 20 [(0, sx_A (0)), (1, sx_J (x))] [sx_I (b17)]
    refine sx_if_ne C 25 ⟨by omega, by omega⟩ d_Si_district_20 (by decide) (fun c20 => ?_) (fun c20 => ?_)
    · refine sx_aload_n C 0 d_Si_district_25 rfl rfl ?_
      refine sx_iconst C d_Si_district_26 ?_
      refine sx_putz C p_Si_44 (by omega) (by decide) rfl d_Si_district_27 ?_
      refine sx_aload_n C 0 d_Si_district_30 rfl rfl ?_
      refine sx_getr C f_Si_12 1 (by decide) rfl rfl d_Si_district_31 ?_
      refine sx_lload_n C 1 d_Si_district_34 rfl rfl ?_
      refine sx_callV (n := 71) (As := [sx_J (x)]) (st := []) C (ct_To_addDistrict _ _ _ (np M) (tw_fr1 (fun a h _ => sx_up_ne (by omega)) hT) (by rw [show np M 1 0 = M 1 0 from congrFun (sx_up_ne (by decide)) 0]; omega) x) rfl (by decide) rfl (cv_Si_58 E C _ (by rw [Rr.2.2]; decide)) (Nat.le_of_ble_eq_true rfl) d_Si_district_35 (by rw [Rr.2.2]; decide) (by decide) rfl rfl rfl (fun r35 G35 M35 hpo _ => ?_)
      obtain ⟨e1, e2, rfl⟩ := hpo
      rw [e1, e2, show np M 1 0 = M 1 0 from congrFun (sx_up_ne (by decide)) 0]
      show sx_X SC E (0, 0) GL (adM (np M) x) 38 [(0, sx_A (0)), (1, sx_J (x))] [sx_I (M 1 0)]
      refine sx_ireturn C Rr rfl d_Si_district_38 ?_
      exact ⟨rfl, by rw [if_pos (by omega)], by rw [if_pos (by omega)]⟩
    · refine sx_iconst C d_Si_district_23 ?_
      refine sx_ireturn C Rr rfl d_Si_district_24 ?_
      exact ⟨rfl, by rw [if_neg (by omega)], by rw [if_neg (by omega)]⟩
set_option maxRecDepth 100000 in
set_option maxHeartbeats 4000000 in
theorem ct_Si_place (l : Launch) (D : va_G) (tc : Nat → ClassId) (M : sx_M0) (hI : ci M) (x y c q : Int) (hx : sx_r64 x) (hy : sx_r64 y) (hc : sx_r64 c) (hq : sx_r64 q) : sx_Met SC l D tc y_Si_place w_Si_place (rmk 3 120) [sx_A (0), sx_J (x), sx_J (y), sx_J (c), sx_J (q)] GL M (fun r G' M' => G' = GL ∧ r = some (sx_I (if M 1 1 < 5 ∧ -1000 ≤ x ∧ x ≤ 1000 ∧ -1000 ≤ y ∧ y ≤ 1000 ∧ 0 ≤ c ∧ c ≤ 1000000 ∧ 0 ≤ q ∧ q ≤ 1000 then M 1 1 else -1)) ∧ M' = if M 1 1 < 5 ∧ -1000 ≤ x ∧ x ≤ 1000 ∧ -1000 ≤ y ∧ y ≤ 1000 ∧ 0 ≤ c ∧ c ≤ 1000000 ∧ 0 ≤ q ∧ q ≤ 1000 then apM (np M) x y c q else M) := by
  refine sx_enter (by decide) rfl (Nat.le_of_ble_eq_true rfl) (Ts := g_tbl) (fun _ h => List.mem_cons_of_mem _ h) (fun E C Rr hnm hnL => ?_)
  have hT := hI.1
  have g1 := hT.2.1
  refine sx_aload_n C 0 d_Si_place_0 rfl rfl ?_
  refine sx_getr C f_Si_12 1 (by decide) rfl rfl d_Si_place_1 ?_
  refine sx_geti C f_Si_62 (by decide) rfl d_Si_place_4 ?_
  refine sx_iconst C d_Si_place_7 ?_
  refine sx_icmp_ge C 61 ⟨by omega, by omega⟩ ⟨by omega, by omega⟩ d_Si_place_8 (by decide) (fun c8 => ?_) (fun c8 => ?_)
  · refine sx_iconst C d_Si_place_61 ?_
    refine sx_ireturn C Rr rfl d_Si_place_62 ?_
    exact ⟨rfl, by rw [if_neg (by omega)], by rw [if_neg (by omega)]⟩
  · refine sx_lload_n C 1 d_Si_place_11 rfl rfl ?_
    refine sx_ldc2 (v := (-1000)) C (-1000) (tb_ 234 (by decide +kernel) rfl) (by decide) d_Si_place_12 ?_
    refine sx_ldc2 (v := (1000)) C (1000) (tb_ 235 (by decide +kernel) rfl) (by decide) d_Si_place_15 ?_
    refine sx_callS (n := 71) (As := [sx_J (x), sx_J ((-1000)), sx_J (1000)]) (st := []) C (ct_Si_isWithin _ _ _ M x (-1000) 1000 (by constructor <;> omega) (by constructor <;> omega) (by constructor <;> omega)) (cv_Si_54 E C _ (by rw [Rr.2.2]; decide)) (Nat.le_of_ble_eq_true rfl) d_Si_place_18 (by rw [Rr.2.2]; decide) (by decide) rfl rfl rfl (fun r18 G18 M18 hpo _ => ?_)
    obtain ⟨e1, e2, b18, rfl, hb18⟩ := hpo
    rw [e1, e2]
    show sx_X SC E (0, 0) GL M 21 [(0, sx_A (0)), (1, sx_J (x)), (3, sx_J (y)), (5, sx_J (c)), (7, sx_J (q))] [sx_I (b18)]
    refine sx_if_eq C 61 ⟨by omega, by omega⟩ d_Si_place_21 (by decide) (fun c21 => ?_) (fun c21 => ?_)
    · refine sx_iconst C d_Si_place_61 ?_
      refine sx_ireturn C Rr rfl d_Si_place_62 ?_
      exact ⟨rfl, by rw [if_neg (by omega)], by rw [if_neg (by omega)]⟩
    · refine sx_lload_n C 2 d_Si_place_24 rfl rfl ?_
      refine sx_ldc2 (v := (-1000)) C (-1000) (tb_ 234 (by decide +kernel) rfl) (by decide) d_Si_place_25 ?_
      refine sx_ldc2 (v := (1000)) C (1000) (tb_ 235 (by decide +kernel) rfl) (by decide) d_Si_place_28 ?_
      refine sx_callS (n := 71) (As := [sx_J (y), sx_J ((-1000)), sx_J (1000)]) (st := []) C (ct_Si_isWithin _ _ _ M y (-1000) 1000 (by constructor <;> omega) (by constructor <;> omega) (by constructor <;> omega)) (cv_Si_54 E C _ (by rw [Rr.2.2]; decide)) (Nat.le_of_ble_eq_true rfl) d_Si_place_31 (by rw [Rr.2.2]; decide) (by decide) rfl rfl rfl (fun r31 G31 M31 hpo _ => ?_)
      obtain ⟨e1, e2, b31, rfl, hb31⟩ := hpo
      rw [e1, e2]
      show sx_X SC E (0, 0) GL M 34 [(0, sx_A (0)), (1, sx_J (x)), (3, sx_J (y)), (5, sx_J (c)), (7, sx_J (q))] [sx_I (b31)]
      refine sx_if_eq C 61 ⟨by omega, by omega⟩ d_Si_place_34 (by decide) (fun c34 => ?_) (fun c34 => ?_)
      · refine sx_iconst C d_Si_place_61 ?_
        refine sx_ireturn C Rr rfl d_Si_place_62 ?_
        exact ⟨rfl, by rw [if_neg (by omega)], by rw [if_neg (by omega)]⟩
      · refine sx_lload C 3 d_Si_place_37 rfl ?_
        refine sx_lconst C 0 rfl d_Si_place_39 ?_
        refine sx_ldc2 (v := (1000000)) C (1000000) (tb_ 236 (by decide +kernel) rfl) (by decide) d_Si_place_40 ?_
        refine sx_callS (n := 71) (As := [sx_J (c), sx_J (0), sx_J (1000000)]) (st := []) C (ct_Si_isWithin _ _ _ M c 0 1000000 (by constructor <;> omega) (by constructor <;> omega) (by constructor <;> omega)) (cv_Si_54 E C _ (by rw [Rr.2.2]; decide)) (Nat.le_of_ble_eq_true rfl) d_Si_place_43 (by rw [Rr.2.2]; decide) (by decide) rfl rfl rfl (fun r43 G43 M43 hpo _ => ?_)
        obtain ⟨e1, e2, b43, rfl, hb43⟩ := hpo
        rw [e1, e2]
        show sx_X SC E (0, 0) GL M 46 [(0, sx_A (0)), (1, sx_J (x)), (3, sx_J (y)), (5, sx_J (c)), (7, sx_J (q))] [sx_I (b43)]
        refine sx_if_eq C 61 ⟨by omega, by omega⟩ d_Si_place_46 (by decide) (fun c46 => ?_) (fun c46 => ?_)
        · refine sx_iconst C d_Si_place_61 ?_
          refine sx_ireturn C Rr rfl d_Si_place_62 ?_
          exact ⟨rfl, by rw [if_neg (by omega)], by rw [if_neg (by omega)]⟩
        · refine sx_lload C 4 d_Si_place_49 rfl ?_
          refine sx_lconst C 0 rfl d_Si_place_51 ?_
          refine sx_ldc2 (v := (1000)) C (1000) (tb_ 235 (by decide +kernel) rfl) (by decide) d_Si_place_52 ?_
          refine sx_callS (n := 71) (As := [sx_J (q), sx_J (0), sx_J (1000)]) (st := []) C (ct_Si_isWithin _ _ _ M q 0 1000 (by constructor <;> omega) (by constructor <;> omega) (by constructor <;> omega)) (cv_Si_54 E C _ (by rw [Rr.2.2]; decide)) (Nat.le_of_ble_eq_true rfl) d_Si_place_55 (by rw [Rr.2.2]; decide) (by decide) rfl rfl rfl (fun r55 G55 M55 hpo _ => ?_)
          obtain ⟨e1, e2, b55, rfl, hb55⟩ := hpo
          rw [e1, e2]
          show sx_X SC E (0, 0) GL M 58 [(0, sx_A (0)), (1, sx_J (x)), (3, sx_J (y)), (5, sx_J (c)), (7, sx_J (q))] [sx_I (b55)]
          refine sx_if_ne C 63 ⟨by omega, by omega⟩ d_Si_place_58 (by decide) (fun c58 => ?_) (fun c58 => ?_)
          · refine sx_aload_n C 0 d_Si_place_63 rfl rfl ?_
            refine sx_iconst C d_Si_place_64 ?_
            refine sx_putz C p_Si_44 (by omega) (by decide) rfl d_Si_place_65 ?_
            refine sx_aload_n C 0 d_Si_place_68 rfl rfl ?_
            refine sx_getr C f_Si_12 1 (by decide) rfl rfl d_Si_place_69 ?_
            refine sx_lload_n C 1 d_Si_place_72 rfl rfl ?_
            refine sx_lload_n C 2 d_Si_place_73 rfl rfl ?_
            refine sx_lload C 3 d_Si_place_74 rfl ?_
            refine sx_lload C 4 d_Si_place_76 rfl ?_
            refine sx_callV (n := 71) (As := [sx_J (x), sx_J (y), sx_J (c), sx_J (q)]) (st := []) C (ct_To_addPlace _ _ _ (np M) (tw_fr1 (fun a h _ => sx_up_ne (by omega)) hT) (by rw [show np M 1 1 = M 1 1 from congrFun (sx_up_ne (by decide)) 1]; omega) x y c q) rfl (by decide) rfl (cv_Si_71 E C _ (by rw [Rr.2.2]; decide)) (Nat.le_of_ble_eq_true rfl) d_Si_place_78 (by rw [Rr.2.2]; decide) (by decide) rfl rfl rfl (fun r78 G78 M78 hpo _ => ?_)
            obtain ⟨e1, e2, rfl⟩ := hpo
            rw [e1, e2, show np M 1 1 = M 1 1 from congrFun (sx_up_ne (by decide)) 1]
            show sx_X SC E (0, 0) GL (apM (np M) x y c q) 81 [(0, sx_A (0)), (1, sx_J (x)), (3, sx_J (y)), (5, sx_J (c)), (7, sx_J (q))] [sx_I (M 1 1)]
            refine sx_ireturn C Rr rfl d_Si_place_81 ?_
            exact ⟨rfl, by rw [if_pos (by omega)], by rw [if_pos (by omega)]⟩
          · refine sx_iconst C d_Si_place_61 ?_
            refine sx_ireturn C Rr rfl d_Si_place_62 ?_
            exact ⟨rfl, by rw [if_neg (by omega)], by rw [if_neg (by omega)]⟩
set_option maxRecDepth 100000 in
set_option maxHeartbeats 4000000 in
theorem ct_Si_walk (l : Launch) (D : va_G) (tc : Nat → ClassId) (M : sx_M0) (hI : ci M) (d p x : Int) (hd : sx_r32 d) (hp : sx_r32 p) (hx : sx_r64 x) : sx_Met SC l D tc y_Si_walk w_Si_walk (rmk 3 120) [sx_A (0), sx_I (d), sx_I (p), sx_J (x)] GL M (fun r G' M' => G' = GL ∧ r = some (sx_I (if 0 ≤ d ∧ d < M 1 0 ∧ 0 ≤ p ∧ p < M 1 1 ∧ 0 ≤ x ∧ x ≤ 10000 then 1 else 0)) ∧ M' = if 0 ≤ d ∧ d < M 1 0 ∧ 0 ≤ p ∧ p < M 1 1 ∧ 0 ≤ x ∧ x ≤ 10000 then sx_up (sx_up M (4 + 1 + d.toNat) p.toNat x) 0 5 0 else M) := by
  refine sx_enter (by decide) rfl (Nat.le_of_ble_eq_true rfl) (Ts := g_tbl) (fun _ h => List.mem_cons_of_mem _ h) (fun E C Rr hnm hnL => ?_)
  have hT := hI.1
  have g0 := hT.1
  have g1 := hT.2.1
  refine sx_aload_n C 0 d_Si_walk_0 rfl rfl ?_
  refine sx_getr C f_Si_12 1 (by decide) rfl rfl d_Si_walk_1 ?_
  refine sx_iload_n C 1 d_Si_walk_4 rfl rfl ?_
  refine sx_callV (n := 71) (As := [sx_I (d)]) (st := []) C (ct_To_hasDistrict _ _ _ M hT d (by constructor <;> omega)) rfl (by decide) rfl (cv_Si_75 E C _ (by rw [Rr.2.2]; decide)) (Nat.le_of_ble_eq_true rfl) d_Si_walk_5 (by rw [Rr.2.2]; decide) (by decide) rfl rfl rfl (fun r5 G5 M5 hpo _ => ?_)
  obtain ⟨e1, e2, b5, rfl, hb5⟩ := hpo
  rw [e1, e2]
  show sx_X SC E (0, 0) GL M 8 [(0, sx_A (0)), (1, sx_I (d)), (2, sx_I (p)), (3, sx_J (x))] [sx_I (b5)]
  refine sx_if_eq C 33 ⟨by omega, by omega⟩ d_Si_walk_8 (by decide) (fun c8 => ?_) (fun c8 => ?_)
  · refine sx_iconst C d_Si_walk_33 ?_
    refine sx_zreturn C Rr (by omega) rfl d_Si_walk_34 ?_
    exact ⟨rfl, by rw [if_neg (by omega)], by rw [if_neg (by omega)]⟩
  · refine sx_aload_n C 0 d_Si_walk_11 rfl rfl ?_
    refine sx_getr C f_Si_12 1 (by decide) rfl rfl d_Si_walk_12 ?_
    refine sx_iload_n C 2 d_Si_walk_15 rfl rfl ?_
    refine sx_callV (n := 71) (As := [sx_I (p)]) (st := []) C (ct_To_hasPlace _ _ _ M hT p (by constructor <;> omega)) rfl (by decide) rfl (cv_Si_79 E C _ (by rw [Rr.2.2]; decide)) (Nat.le_of_ble_eq_true rfl) d_Si_walk_16 (by rw [Rr.2.2]; decide) (by decide) rfl rfl rfl (fun r16 G16 M16 hpo _ => ?_)
    obtain ⟨e1, e2, b16, rfl, hb16⟩ := hpo
    rw [e1, e2]
    show sx_X SC E (0, 0) GL M 19 [(0, sx_A (0)), (1, sx_I (d)), (2, sx_I (p)), (3, sx_J (x))] [sx_I (b16)]
    refine sx_if_eq C 33 ⟨by omega, by omega⟩ d_Si_walk_19 (by decide) (fun c19 => ?_) (fun c19 => ?_)
    · refine sx_iconst C d_Si_walk_33 ?_
      refine sx_zreturn C Rr (by omega) rfl d_Si_walk_34 ?_
      exact ⟨rfl, by rw [if_neg (by omega)], by rw [if_neg (by omega)]⟩
    · refine sx_lload_n C 3 d_Si_walk_22 rfl rfl ?_
      refine sx_lconst C 0 rfl d_Si_walk_23 ?_
      refine sx_ldc2 (v := (10000)) C (10000) (tb_ 253 (by decide +kernel) rfl) (by decide) d_Si_walk_24 ?_
      refine sx_callS (n := 71) (As := [sx_J (x), sx_J (0), sx_J (10000)]) (st := []) C (ct_Si_isWithin _ _ _ M x 0 10000 (by constructor <;> omega) (by constructor <;> omega) (by constructor <;> omega)) (cv_Si_54 E C _ (by rw [Rr.2.2]; decide)) (Nat.le_of_ble_eq_true rfl) d_Si_walk_27 (by rw [Rr.2.2]; decide) (by decide) rfl rfl rfl (fun r27 G27 M27 hpo _ => ?_)
      obtain ⟨e1, e2, b27, rfl, hb27⟩ := hpo
      rw [e1, e2]
      show sx_X SC E (0, 0) GL M 30 [(0, sx_A (0)), (1, sx_I (d)), (2, sx_I (p)), (3, sx_J (x))] [sx_I (b27)]
      refine sx_if_ne C 35 ⟨by omega, by omega⟩ d_Si_walk_30 (by decide) (fun c30 => ?_) (fun c30 => ?_)
      · refine sx_aload_n C 0 d_Si_walk_35 rfl rfl ?_
        refine sx_getr C f_Si_12 1 (by decide) rfl rfl d_Si_walk_36 ?_
        refine sx_getr C f_Si_84 4 (by decide) rfl rfl d_Si_walk_39 ?_
        refine sx_iload_n C 1 d_Si_walk_42 rfl rfl ?_
        refine sx_aaload C d.toNat (4 + 1 + d.toNat) (by decide) rfl rfl (by omega) (by omega) (by decide) (if_pos (by omega)) d_Si_walk_43 ?_
        refine sx_iload_n C 2 d_Si_walk_44 rfl rfl ?_
        refine sx_lload_n C 3 d_Si_walk_45 rfl rfl ?_
        refine sx_lastore C p.toNat (by show (4 + 1 + d.toNat) < 71; omega) (gl_4 _ (by omega)) rfl (by omega) (by omega) (by decide) d_Si_walk_46 ?_
        refine sx_aload_n C 0 d_Si_walk_47 rfl rfl ?_
        refine sx_iconst C d_Si_walk_48 ?_
        refine sx_putz C p_Si_44 (by omega) (by decide) rfl d_Si_walk_49 ?_
        refine sx_iconst C d_Si_walk_52 ?_
        refine sx_zreturn C Rr (by omega) rfl d_Si_walk_53 ?_
        exact ⟨rfl, by rw [if_pos (by omega)], by rw [if_pos (by omega)]⟩
      · refine sx_iconst C d_Si_walk_33 ?_
        refine sx_zreturn C Rr (by omega) rfl d_Si_walk_34 ?_
        exact ⟨rfl, by rw [if_neg (by omega)], by rw [if_neg (by omega)]⟩
set_option maxRecDepth 100000 in
set_option maxHeartbeats 4000000 in
theorem ct_Si_bar (l : Launch) (D : va_G) (tc : Nat → ClassId) (M : sx_M0) (hI : ci M) (p : Int) (hp : sx_r32 p) : sx_Met SC l D tc y_Si_bar w_Si_bar (rmk 3 120) [sx_A (0), sx_I (p)] GL M (fun r G' M' => G' = GL ∧ r = some (sx_I (if 0 ≤ p ∧ p < M 1 1 ∧ M 16 p.toNat = 0 then 1 else 0)) ∧ M' = if 0 ≤ p ∧ p < M 1 1 ∧ M 16 p.toNat = 0 then sx_up (sx_up M 16 p.toNat 1) 0 5 0 else M) := by
  refine sx_enter (by decide) rfl (Nat.le_of_ble_eq_true rfl) (Ts := g_tbl) (fun _ h => List.mem_cons_of_mem _ h) (fun E C Rr hnm hnL => ?_)
  have hT := hI.1
  have g0 := hT.1
  have g1 := hT.2.1
  refine sx_aload_n C 0 d_Si_bar_0 rfl rfl ?_
  refine sx_getr C f_Si_12 1 (by decide) rfl rfl d_Si_bar_1 ?_
  refine sx_iload_n C 1 d_Si_bar_4 rfl rfl ?_
  refine sx_callV (n := 71) (As := [sx_I (p)]) (st := []) C (ct_To_hasPlace _ _ _ M hT p (by constructor <;> omega)) rfl (by decide) rfl (cv_Si_79 E C _ (by rw [Rr.2.2]; decide)) (Nat.le_of_ble_eq_true rfl) d_Si_bar_5 (by rw [Rr.2.2]; decide) (by decide) rfl rfl rfl (fun r5 G5 M5 hpo _ => ?_)
  obtain ⟨e1, e2, b5, rfl, hb5⟩ := hpo
  rw [e1, e2]
  show sx_X SC E (0, 0) GL M 8 [(0, sx_A (0)), (1, sx_I (p))] [sx_I (b5)]
  refine sx_if_eq C 23 ⟨by omega, by omega⟩ d_Si_bar_8 (by decide) (fun c8 => ?_) (fun c8 => ?_)
  · refine sx_iconst C d_Si_bar_23 ?_
    refine sx_zreturn C Rr (by omega) rfl d_Si_bar_24 ?_
    exact ⟨rfl, by rw [if_neg (by omega)], by rw [if_neg (by omega)]⟩
  · have hb := hT.2.2.2.2.2.2.2.2.2.2.2 p.toNat (by omega)
    refine sx_aload_n C 0 d_Si_bar_11 rfl rfl ?_
    refine sx_getr C f_Si_12 1 (by decide) rfl rfl d_Si_bar_12 ?_
    refine sx_getr C f_Si_88 16 (by decide) rfl rfl d_Si_bar_15 ?_
    refine sx_iload_n C 1 d_Si_bar_18 rfl rfl ?_
    refine sx_zaload C p.toNat (by decide) rfl rfl (by omega) (by omega) (by decide) d_Si_bar_19 ?_
    refine sx_if_eq C 25 ⟨by omega, by omega⟩ d_Si_bar_20 (by decide) (fun c20 => ?_) (fun c20 => ?_)
    · refine sx_aload_n C 0 d_Si_bar_25 rfl rfl ?_
      refine sx_getr C f_Si_12 1 (by decide) rfl rfl d_Si_bar_26 ?_
      refine sx_getr C f_Si_88 16 (by decide) rfl rfl d_Si_bar_29 ?_
      refine sx_iload_n C 1 d_Si_bar_32 rfl rfl ?_
      refine sx_iconst C d_Si_bar_33 ?_
      refine sx_zastore C p.toNat (by omega) (by decide) rfl rfl (by omega) (by omega) (by decide) d_Si_bar_34 ?_
      refine sx_aload_n C 0 d_Si_bar_35 rfl rfl ?_
      refine sx_iconst C d_Si_bar_36 ?_
      refine sx_putz C p_Si_44 (by omega) (by decide) rfl d_Si_bar_37 ?_
      refine sx_iconst C d_Si_bar_40 ?_
      refine sx_zreturn C Rr (by omega) rfl d_Si_bar_41 ?_
      exact ⟨rfl, by rw [if_pos (by omega)], by rw [if_pos (by omega)]⟩
    · refine sx_iconst C d_Si_bar_23 ?_
      refine sx_zreturn C Rr (by omega) rfl d_Si_bar_24 ?_
      exact ⟨rfl, by rw [if_neg (by omega)], by rw [if_neg (by omega)]⟩
set_option maxRecDepth 100000 in
set_option maxHeartbeats 4000000 in
theorem ct_Si_noise (l : Launch) (D : va_G) (tc : Nat → ClassId) (M : sx_M0) (hI : ci M) (p x : Int) (hp : sx_r32 p) (hx : sx_r64 x) : sx_Met SC l D tc y_Si_noise w_Si_noise (rmk 3 120) [sx_A (0), sx_I (p), sx_J (x)] GL M (fun r G' M' => G' = GL ∧ r = some (sx_I (if 0 ≤ p ∧ p < M 1 1 ∧ 0 ≤ x ∧ x ≤ 3000 then 1 else 0)) ∧ M' = if 0 ≤ p ∧ p < M 1 1 ∧ 0 ≤ x ∧ x ≤ 3000 then sx_up (sx_up M 15 p.toNat x) 0 5 0 else M) := by
  refine sx_enter (by decide) rfl (Nat.le_of_ble_eq_true rfl) (Ts := g_tbl) (fun _ h => List.mem_cons_of_mem _ h) (fun E C Rr hnm hnL => ?_)
  have hT := hI.1
  have g0 := hT.1
  have g1 := hT.2.1
  refine sx_aload_n C 0 d_Si_noise_0 rfl rfl ?_
  refine sx_getr C f_Si_12 1 (by decide) rfl rfl d_Si_noise_1 ?_
  refine sx_iload_n C 1 d_Si_noise_4 rfl rfl ?_
  refine sx_callV (n := 71) (As := [sx_I (p)]) (st := []) C (ct_To_hasPlace _ _ _ M hT p (by constructor <;> omega)) rfl (by decide) rfl (cv_Si_79 E C _ (by rw [Rr.2.2]; decide)) (Nat.le_of_ble_eq_true rfl) d_Si_noise_5 (by rw [Rr.2.2]; decide) (by decide) rfl rfl rfl (fun r5 G5 M5 hpo _ => ?_)
  obtain ⟨e1, e2, b5, rfl, hb5⟩ := hpo
  rw [e1, e2]
  show sx_X SC E (0, 0) GL M 8 [(0, sx_A (0)), (1, sx_I (p)), (2, sx_J (x))] [sx_I (b5)]
  refine sx_if_eq C 22 ⟨by omega, by omega⟩ d_Si_noise_8 (by decide) (fun c8 => ?_) (fun c8 => ?_)
  · refine sx_iconst C d_Si_noise_22 ?_
    refine sx_zreturn C Rr (by omega) rfl d_Si_noise_23 ?_
    exact ⟨rfl, by rw [if_neg (by omega)], by rw [if_neg (by omega)]⟩
  · refine sx_lload_n C 2 d_Si_noise_11 rfl rfl ?_
    refine sx_lconst C 0 rfl d_Si_noise_12 ?_
    refine sx_ldc2 (v := (3000)) C (3000) (tb_ 262 (by decide +kernel) rfl) (by decide) d_Si_noise_13 ?_
    refine sx_callS (n := 71) (As := [sx_J (x), sx_J (0), sx_J (3000)]) (st := []) C (ct_Si_isWithin _ _ _ M x 0 3000 (by constructor <;> omega) (by constructor <;> omega) (by constructor <;> omega)) (cv_Si_54 E C _ (by rw [Rr.2.2]; decide)) (Nat.le_of_ble_eq_true rfl) d_Si_noise_16 (by rw [Rr.2.2]; decide) (by decide) rfl rfl rfl (fun r16 G16 M16 hpo _ => ?_)
    obtain ⟨e1, e2, b16, rfl, hb16⟩ := hpo
    rw [e1, e2]
    show sx_X SC E (0, 0) GL M 19 [(0, sx_A (0)), (1, sx_I (p)), (2, sx_J (x))] [sx_I (b16)]
    refine sx_if_ne C 24 ⟨by omega, by omega⟩ d_Si_noise_19 (by decide) (fun c19 => ?_) (fun c19 => ?_)
    · refine sx_aload_n C 0 d_Si_noise_24 rfl rfl ?_
      refine sx_getr C f_Si_12 1 (by decide) rfl rfl d_Si_noise_25 ?_
      refine sx_getr C f_Si_94 15 (by decide) rfl rfl d_Si_noise_28 ?_
      refine sx_iload_n C 1 d_Si_noise_31 rfl rfl ?_
      refine sx_lload_n C 2 d_Si_noise_32 rfl rfl ?_
      refine sx_lastore C p.toNat (by decide) rfl rfl (by omega) (by omega) (by decide) d_Si_noise_33 ?_
      refine sx_aload_n C 0 d_Si_noise_34 rfl rfl ?_
      refine sx_iconst C d_Si_noise_35 ?_
      refine sx_putz C p_Si_44 (by omega) (by decide) rfl d_Si_noise_36 ?_
      refine sx_iconst C d_Si_noise_39 ?_
      refine sx_zreturn C Rr (by omega) rfl d_Si_noise_40 ?_
      exact ⟨rfl, by rw [if_pos (by omega)], by rw [if_pos (by omega)]⟩
    · refine sx_iconst C d_Si_noise_22 ?_
      refine sx_zreturn C Rr (by omega) rfl d_Si_noise_23 ?_
      exact ⟨rfl, by rw [if_neg (by omega)], by rw [if_neg (by omega)]⟩
set_option maxRecDepth 100000 in
set_option maxHeartbeats 4000000 in
theorem ct_Si_budget (l : Launch) (D : va_G) (tc : Nat → ClassId) (M : sx_M0) (hI : ci M) (x : Int) (hx : sx_r64 x) : sx_Met SC l D tc y_Si_budget w_Si_budget (rmk 3 120) [sx_A (0), sx_J (x)] GL M (fun r G' M' => G' = GL ∧ r = some (sx_I (if 0 ≤ x ∧ x ≤ 10000000 then 1 else 0)) ∧ M' = if 0 ≤ x ∧ x ≤ 10000000 then sx_up (sx_up M 1 2 x) 0 5 0 else M) := by
  refine sx_enter (by decide) rfl (Nat.le_of_ble_eq_true rfl) (Ts := g_tbl) (fun _ h => List.mem_cons_of_mem _ h) (fun E C Rr hnm hnL => ?_)
  have hT := hI.1
  have g0 := hT.1
  have g1 := hT.2.1
  refine sx_lload_n C 1 d_Si_budget_0 rfl rfl ?_
  refine sx_lconst C 0 rfl d_Si_budget_1 ?_
  refine sx_ldc2 (v := (10000000)) C (10000000) (tb_ 267 (by decide +kernel) rfl) (by decide) d_Si_budget_2 ?_
  refine sx_callS (n := 71) (As := [sx_J (x), sx_J (0), sx_J (10000000)]) (st := []) C (ct_Si_isWithin _ _ _ M x 0 10000000 (by constructor <;> omega) (by constructor <;> omega) (by constructor <;> omega)) (cv_Si_54 E C _ (by rw [Rr.2.2]; decide)) (Nat.le_of_ble_eq_true rfl) d_Si_budget_5 (by rw [Rr.2.2]; decide) (by decide) rfl rfl rfl (fun r5 G5 M5 hpo _ => ?_)
  obtain ⟨e1, e2, b5, rfl, hb5⟩ := hpo
  rw [e1, e2]
  show sx_X SC E (0, 0) GL M 8 [(0, sx_A (0)), (1, sx_J (x))] [sx_I (b5)]
  refine sx_if_ne C 13 ⟨by omega, by omega⟩ d_Si_budget_8 (by decide) (fun c8 => ?_) (fun c8 => ?_)
  · refine sx_aload_n C 0 d_Si_budget_13 rfl rfl ?_
    refine sx_getr C f_Si_12 1 (by decide) rfl rfl d_Si_budget_14 ?_
    refine sx_lload_n C 1 d_Si_budget_17 rfl rfl ?_
    refine sx_putl C p_Si_100 (by decide) rfl d_Si_budget_18 ?_
    refine sx_aload_n C 0 d_Si_budget_21 rfl rfl ?_
    refine sx_iconst C d_Si_budget_22 ?_
    refine sx_putz C p_Si_44 (by omega) (by decide) rfl d_Si_budget_23 ?_
    refine sx_iconst C d_Si_budget_26 ?_
    refine sx_zreturn C Rr (by omega) rfl d_Si_budget_27 ?_
    exact ⟨rfl, by rw [if_pos (by omega)], by rw [if_pos (by omega)]⟩
  · refine sx_iconst C d_Si_budget_11 ?_
    refine sx_zreturn C Rr (by omega) rfl d_Si_budget_12 ?_
    exact ⟨rfl, by rw [if_neg (by omega)], by rw [if_neg (by omega)]⟩
set_option maxRecDepth 100000 in
set_option maxHeartbeats 4000000 in
theorem ct_Si_fair (l : Launch) (D : va_G) (tc : Nat → ClassId) (M : sx_M0) (hI : ci M) (d x : Int) (hd : sx_r32 d) (hx : sx_r64 x) : sx_Met SC l D tc y_Si_fair w_Si_fair (rmk 3 120) [sx_A (0), sx_I (d), sx_J (x)] GL M (fun r G' M' => G' = GL ∧ r = some (sx_I (if 0 ≤ d ∧ d < M 1 0 ∧ 0 ≤ x ∧ x ≤ 10000 then 1 else 0)) ∧ M' = if 0 ≤ d ∧ d < M 1 0 ∧ 0 ≤ x ∧ x ≤ 10000 then sx_up (sx_up M 3 d.toNat x) 0 5 0 else M) := by
  refine sx_enter (by decide) rfl (Nat.le_of_ble_eq_true rfl) (Ts := g_tbl) (fun _ h => List.mem_cons_of_mem _ h) (fun E C Rr hnm hnL => ?_)
  have hT := hI.1
  have g0 := hT.1
  have g1 := hT.2.1
  refine sx_aload_n C 0 d_Si_fair_0 rfl rfl ?_
  refine sx_getr C f_Si_12 1 (by decide) rfl rfl d_Si_fair_1 ?_
  refine sx_iload_n C 1 d_Si_fair_4 rfl rfl ?_
  refine sx_callV (n := 71) (As := [sx_I (d)]) (st := []) C (ct_To_hasDistrict _ _ _ M hT d (by constructor <;> omega)) rfl (by decide) rfl (cv_Si_75 E C _ (by rw [Rr.2.2]; decide)) (Nat.le_of_ble_eq_true rfl) d_Si_fair_5 (by rw [Rr.2.2]; decide) (by decide) rfl rfl rfl (fun r5 G5 M5 hpo _ => ?_)
  obtain ⟨e1, e2, b5, rfl, hb5⟩ := hpo
  rw [e1, e2]
  show sx_X SC E (0, 0) GL M 8 [(0, sx_A (0)), (1, sx_I (d)), (2, sx_J (x))] [sx_I (b5)]
  refine sx_if_eq C 22 ⟨by omega, by omega⟩ d_Si_fair_8 (by decide) (fun c8 => ?_) (fun c8 => ?_)
  · refine sx_iconst C d_Si_fair_22 ?_
    refine sx_zreturn C Rr (by omega) rfl d_Si_fair_23 ?_
    exact ⟨rfl, by rw [if_neg (by omega)], by rw [if_neg (by omega)]⟩
  · refine sx_lload_n C 2 d_Si_fair_11 rfl rfl ?_
    refine sx_lconst C 0 rfl d_Si_fair_12 ?_
    refine sx_ldc2 (v := (10000)) C (10000) (tb_ 253 (by decide +kernel) rfl) (by decide) d_Si_fair_13 ?_
    refine sx_callS (n := 71) (As := [sx_J (x), sx_J (0), sx_J (10000)]) (st := []) C (ct_Si_isWithin _ _ _ M x 0 10000 (by constructor <;> omega) (by constructor <;> omega) (by constructor <;> omega)) (cv_Si_54 E C _ (by rw [Rr.2.2]; decide)) (Nat.le_of_ble_eq_true rfl) d_Si_fair_16 (by rw [Rr.2.2]; decide) (by decide) rfl rfl rfl (fun r16 G16 M16 hpo _ => ?_)
    obtain ⟨e1, e2, b16, rfl, hb16⟩ := hpo
    rw [e1, e2]
    show sx_X SC E (0, 0) GL M 19 [(0, sx_A (0)), (1, sx_I (d)), (2, sx_J (x))] [sx_I (b16)]
    refine sx_if_ne C 24 ⟨by omega, by omega⟩ d_Si_fair_19 (by decide) (fun c19 => ?_) (fun c19 => ?_)
    · refine sx_aload_n C 0 d_Si_fair_24 rfl rfl ?_
      refine sx_getr C f_Si_12 1 (by decide) rfl rfl d_Si_fair_25 ?_
      refine sx_getr C f_Si_104 3 (by decide) rfl rfl d_Si_fair_28 ?_
      refine sx_iload_n C 1 d_Si_fair_31 rfl rfl ?_
      refine sx_lload_n C 2 d_Si_fair_32 rfl rfl ?_
      refine sx_lastore C d.toNat (by decide) rfl rfl (by omega) (by omega) (by decide) d_Si_fair_33 ?_
      refine sx_aload_n C 0 d_Si_fair_34 rfl rfl ?_
      refine sx_iconst C d_Si_fair_35 ?_
      refine sx_putz C p_Si_44 (by omega) (by decide) rfl d_Si_fair_36 ?_
      refine sx_iconst C d_Si_fair_39 ?_
      refine sx_zreturn C Rr (by omega) rfl d_Si_fair_40 ?_
      exact ⟨rfl, by rw [if_pos (by omega)], by rw [if_pos (by omega)]⟩
    · refine sx_iconst C d_Si_fair_22 ?_
      refine sx_zreturn C Rr (by omega) rfl d_Si_fair_23 ?_
      exact ⟨rfl, by rw [if_neg (by omega)], by rw [if_neg (by omega)]⟩
set_option maxRecDepth 100000 in
set_option maxHeartbeats 4000000 in
theorem ct_Si_ways (l : Launch) (D : va_G) (tc : Nat → ClassId) (M : sx_M0) (hI : ci M) : sx_Met SC l D tc y_Si_ways w_Si_ways (rmk 4 160) [sx_A (0)] GL M (fun r G' M' => G' = GL ∧ M' = M ∧ r = some (sx_J (wyS M (M 1 0).toNat))) := by
  refine sx_enter (by decide) rfl (Nat.le_of_ble_eq_true rfl) (Ts := g_tbl) (fun _ h => List.mem_cons_of_mem _ h) (fun E C Rr hnm hnL => ?_)
  have hT := hI.1
  refine sx_aload_n C 0 d_Si_ways_0 rfl rfl ?_
  refine sx_getr C f_Si_12 1 (by decide) rfl rfl d_Si_ways_1 ?_
  refine sx_callV (n := 71) (As := []) (st := []) C (ct_To_countWays _ _ _ M hT) rfl (by decide) rfl (cv_Si_107 E C _ (by rw [Rr.2.2]; decide)) (Nat.le_of_ble_eq_true rfl) d_Si_ways_4 (by rw [Rr.2.2]; decide) (by decide) rfl rfl rfl (fun r4 G4 M4 hpo _ => ?_)
  obtain ⟨e1, e2, rfl⟩ := hpo
  rw [e1, e2]
  show sx_X SC E (0, 0) GL M 7 [(0, sx_A (0))] [sx_J (wyS M (M 1 0).toNat)]
  refine sx_lreturn C Rr rfl d_Si_ways_7 ?_
  exact ⟨rfl, rfl, rfl⟩
set_option maxRecDepth 100000 in
set_option maxHeartbeats 4000000 in
theorem ct_Si_proved (l : Launch) (D : va_G) (tc : Nat → ClassId) (M : sx_M0) (hI : ci M) : sx_Met SC l D tc y_Si_proved w_Si_proved (rmk 0 0) [sx_A (0)] GL M (fun r G' M' => G' = GL ∧ M' = M ∧ r = some (sx_I (M 0 5))) := by
  refine sx_enter (by decide) rfl (Nat.le_of_ble_eq_true rfl) (Ts := g_tbl) (fun _ h => List.mem_cons_of_mem _ h) (fun E C Rr hnm hnL => ?_)
  have hz := hI.2.2.1.2.2.2.2.2.2.2
  refine sx_aload_n C 0 d_Si_proved_0 rfl rfl ?_
  refine sx_getz C f_Si_44 (by decide) rfl d_Si_proved_1 ?_
  refine sx_zreturn C Rr (by omega) rfl d_Si_proved_4 ?_
  exact ⟨rfl, rfl, rfl⟩
set_option maxRecDepth 100000 in
set_option maxHeartbeats 4000000 in
theorem ct_Si_sum (l : Launch) (D : va_G) (tc : Nat → ClassId) (M : sx_M0) (hI : ci M) : sx_Met SC l D tc y_Si_sum w_Si_sum (rmk 0 0) [sx_A (0)] GL M (fun r G' M' => G' = GL ∧ M' = M ∧ r = some (sx_J (if M 33 0 = 1 then M 33 1 else -1))) := by
  refine sx_enter (by decide) rfl (Nat.le_of_ble_eq_true rfl) (Ts := g_tbl) (fun _ h => List.mem_cons_of_mem _ h) (fun E C Rr hnm hnL => ?_)
  have hz := hI.2.2.1.1
  refine sx_aload_n C 0 d_Si_sum_0 rfl rfl ?_
  refine sx_getr C f_Si_26 33 (by decide) rfl rfl d_Si_sum_1 ?_
  refine sx_getz C f_Si_146 (by decide) rfl d_Si_sum_4 ?_
  refine sx_if_eq C 20 ⟨by omega, by omega⟩ d_Si_sum_7 (by decide) (fun c7 => ?_) (fun c7 => ?_)
  · refine sx_ldc2 (v := (-1)) C (-1) (tb_ 373 (by decide +kernel) rfl) (by decide) d_Si_sum_20 ?_
    refine sx_lreturn C Rr rfl d_Si_sum_23 ?_
    exact ⟨rfl, rfl, by rw [if_neg (by omega)]⟩
  · refine sx_aload_n C 0 d_Si_sum_10 rfl rfl ?_
    refine sx_getr C f_Si_26 33 (by decide) rfl rfl d_Si_sum_11 ?_
    refine sx_getl C f_Si_149 (by decide) rfl d_Si_sum_14 ?_
    refine sx_goto C 23 d_Si_sum_17 (by decide) ?_
    refine sx_lreturn C Rr rfl d_Si_sum_23 ?_
    exact ⟨rfl, rfl, by rw [if_pos (by omega)]⟩
set_option maxRecDepth 100000 in
set_option maxHeartbeats 4000000 in
theorem ct_Si_clash (l : Launch) (D : va_G) (tc : Nat → ClassId) (M : sx_M0) (hI : ci M) (k : Int) (hx : sx_r32 k) : sx_Met SC l D tc y_Si_clash w_Si_clash (rmk 1 40) [sx_A (0), sx_I (k)] GL M (fun r G' M' => G' = GL ∧ M' = M ∧ r = some (sx_I (mbS M k))) := by
  refine sx_enter (by decide) rfl (Nat.le_of_ble_eq_true rfl) (Ts := g_tbl) (fun _ h => List.mem_cons_of_mem _ h) (fun E C Rr hnm hnL => ?_)
  refine sx_aload_n C 0 d_Si_clash_0 rfl rfl ?_
  refine sx_getr C f_Si_33 35 (by decide) rfl rfl d_Si_clash_1 ?_
  refine sx_iload_n C 1 d_Si_clash_4 rfl rfl ?_
  refine sx_callV (n := 71) (As := [sx_I (k)]) (st := []) C (ct_Un_member _ _ _ M hI.2.2.1 k hx) rfl (by decide) rfl (cv_Si_155 E C _ (by rw [Rr.2.2]; decide)) (Nat.le_of_ble_eq_true rfl) d_Si_clash_5 (by rw [Rr.2.2]; decide) (by decide) rfl rfl rfl (fun r5 G5 M5 hpo _ => ?_)
  obtain ⟨e1, e2, rfl⟩ := hpo
  rw [e1, e2]
  show sx_X SC E (0, 0) GL M 8 [(0, sx_A (0)), (1, sx_I (k))] [sx_I (mbS M k)]
  refine sx_ireturn C Rr rfl d_Si_clash_8 ?_
  exact ⟨rfl, rfl, rfl⟩
set_option maxRecDepth 100000 in
set_option maxHeartbeats 4000000 in
theorem ct_Si_of (l : Launch) (D : va_G) (tc : Nat → ClassId) (M : sx_M0) (hI : ci M) (d : Int) (hx : sx_r32 d) : sx_Met SC l D tc y_Si_of w_Si_of (rmk 1 40) [sx_A (0), sx_I (d)] GL M (fun r G' M' => G' = GL ∧ M' = M ∧ r = some (sx_I (if 0 ≤ d ∧ d < M 1 0 then pfS M d else -1))) := by
  refine sx_enter (by decide) rfl (Nat.le_of_ble_eq_true rfl) (Ts := g_tbl) (fun _ h => List.mem_cons_of_mem _ h) (fun E C Rr hnm hnL => ?_)
  have hT := hI.1
  have hH := hI.2.2.1
  refine sx_aload_n C 0 d_Si_of_0 rfl rfl ?_
  refine sx_getr C f_Si_12 1 (by decide) rfl rfl d_Si_of_1 ?_
  refine sx_iload_n C 1 d_Si_of_4 rfl rfl ?_
  refine sx_callV (n := 71) (As := [sx_I (d)]) (st := []) C (ct_To_hasDistrict _ _ _ M hT d (by constructor <;> omega)) rfl (by decide) rfl (cv_Si_75 E C _ (by rw [Rr.2.2]; decide)) (Nat.le_of_ble_eq_true rfl) d_Si_of_5 (by rw [Rr.2.2]; decide) (by decide) rfl rfl rfl (fun r5 G5 M5 hpo _ => ?_)
  obtain ⟨e1, e2, b5, rfl, hb5⟩ := hpo
  rw [e1, e2]
  show sx_X SC E (0, 0) GL M 8 [(0, sx_A (0)), (1, sx_I (d))] [sx_I (b5)]
  refine sx_if_eq C 22 ⟨by omega, by omega⟩ d_Si_of_8 (by decide) (fun c8 => ?_) (fun c8 => ?_)
  · refine sx_iconst C d_Si_of_22 ?_
    refine sx_ireturn C Rr rfl d_Si_of_23 ?_
    exact ⟨rfl, rfl, by rw [if_neg (by omega)]⟩
  · refine sx_aload_n C 0 d_Si_of_11 rfl rfl ?_
    refine sx_getr C f_Si_26 33 (by decide) rfl rfl d_Si_of_12 ?_
    refine sx_iload_n C 1 d_Si_of_15 rfl rfl ?_
    refine sx_callV (n := 71) (As := [sx_I (d)]) (st := []) C (ct_He_placeFor _ _ _ M hH d (by constructor <;> omega)) rfl (by decide) rfl (cv_Si_142 E C _ (by rw [Rr.2.2]; decide)) (Nat.le_of_ble_eq_true rfl) d_Si_of_16 (by rw [Rr.2.2]; decide) (by decide) rfl rfl rfl (fun r16 G16 M16 hpo _ => ?_)
    obtain ⟨e1, e2, rfl⟩ := hpo
    rw [e1, e2]
    show sx_X SC E (0, 0) GL M 19 [(0, sx_A (0)), (1, sx_I (d))] [sx_I (pfS M d)]
    refine sx_goto C 23 d_Si_of_19 (by decide) ?_
    refine sx_ireturn C Rr rfl d_Si_of_23 ?_
    exact ⟨rfl, rfl, by rw [if_pos (by omega)]⟩
set_option maxRecDepth 100000 in
set_option maxHeartbeats 4000000 in
theorem ct_Si_open (l : Launch) (D : va_G) (tc : Nat → ClassId) (M : sx_M0) (hI : ci M) (p y : Int) (hp : sx_r32 p) (hy : sx_r32 y) : sx_Met SC l D tc y_Si_open w_Si_open (rmk 1 40) [sx_A (0), sx_I (p), sx_I (y)] GL M (fun r G' M' => G' = GL ∧ M' = M ∧ r = some (sx_I (if 0 ≤ p ∧ p < M 1 1 then opS M p y else -1))) := by
  refine sx_enter (by decide) rfl (Nat.le_of_ble_eq_true rfl) (Ts := g_tbl) (fun _ h => List.mem_cons_of_mem _ h) (fun E C Rr hnm hnL => ?_)
  have hT := hI.1
  refine sx_aload_n C 0 d_Si_open_0 rfl rfl ?_
  refine sx_getr C f_Si_12 1 (by decide) rfl rfl d_Si_open_1 ?_
  refine sx_iload_n C 1 d_Si_open_4 rfl rfl ?_
  refine sx_callV (n := 71) (As := [sx_I (p)]) (st := []) C (ct_To_hasPlace _ _ _ M hT p (by constructor <;> omega)) rfl (by decide) rfl (cv_Si_79 E C _ (by rw [Rr.2.2]; decide)) (Nat.le_of_ble_eq_true rfl) d_Si_open_5 (by rw [Rr.2.2]; decide) (by decide) rfl rfl rfl (fun r5 G5 M5 hpo _ => ?_)
  obtain ⟨e1, e2, b5, rfl, hb5⟩ := hpo
  rw [e1, e2]
  show sx_X SC E (0, 0) GL M 8 [(0, sx_A (0)), (1, sx_I (p)), (2, sx_I (y))] [sx_I (b5)]
  refine sx_if_eq C 23 ⟨by omega, by omega⟩ d_Si_open_8 (by decide) (fun c8 => ?_) (fun c8 => ?_)
  · refine sx_iconst C d_Si_open_23 ?_
    refine sx_ireturn C Rr rfl d_Si_open_24 ?_
    exact ⟨rfl, rfl, by rw [if_neg (by omega)]⟩
  · refine sx_aload_n C 0 d_Si_open_11 rfl rfl ?_
    refine sx_getr C f_Si_40 37 (by decide) rfl rfl d_Si_open_12 ?_
    refine sx_iload_n C 1 d_Si_open_15 rfl rfl ?_
    refine sx_iload_n C 2 d_Si_open_16 rfl rfl ?_
    refine sx_callV (n := 71) (As := [sx_I (p), sx_I (y)]) (st := []) C (ct_Ca_isOpenIn _ _ _ M hI.2.2.1 p y hp hy) rfl (by decide) rfl (cv_Si_178 E C _ (by rw [Rr.2.2]; decide)) (Nat.le_of_ble_eq_true rfl) d_Si_open_17 (by rw [Rr.2.2]; decide) (by decide) rfl rfl rfl (fun r17 G17 M17 hpo _ => ?_)
    obtain ⟨e1, e2, rfl⟩ := hpo
    rw [e1, e2]
    show sx_X SC E (0, 0) GL M 20 [(0, sx_A (0)), (1, sx_I (p)), (2, sx_I (y))] [sx_I (opS M p y)]
    refine sx_goto C 24 d_Si_open_20 (by decide) ?_
    refine sx_ireturn C Rr rfl d_Si_open_24 ?_
    exact ⟨rfl, rfl, by rw [if_pos (by omega)]⟩
set_option maxRecDepth 100000 in
set_option maxHeartbeats 4000000 in
theorem ct_Si_chosen (l : Launch) (D : va_G) (tc : Nat → ClassId) (M : sx_M0) (hI : ci M) (p : Int) (hx : sx_r32 p) : sx_Met SC l D tc y_Si_chosen w_Si_chosen (rmk 2 80) [sx_A (0), sx_I (p)] GL M (fun r G' M' => G' = GL ∧ M' = M ∧ bz ((0 ≤ p ∧ p < M 1 1) ∧ ∃ d : Nat, d < 6 ∧ pfS M (d : Int) = p) r) := by
  refine sx_enter (by decide) rfl (Nat.le_of_ble_eq_true rfl) (Ts := g_tbl) (fun _ h => List.mem_cons_of_mem _ h) (fun E C Rr hnm hnL => ?_)
  have hT := hI.1
  refine sx_aload_n C 0 d_Si_chosen_0 rfl rfl ?_
  refine sx_getr C f_Si_12 1 (by decide) rfl rfl d_Si_chosen_1 ?_
  refine sx_iload_n C 1 d_Si_chosen_4 rfl rfl ?_
  refine sx_callV (n := 71) (As := [sx_I (p)]) (st := []) C (ct_To_hasPlace _ _ _ M hT p (by constructor <;> omega)) rfl (by decide) rfl (cv_Si_79 E C _ (by rw [Rr.2.2]; decide)) (Nat.le_of_ble_eq_true rfl) d_Si_chosen_5 (by rw [Rr.2.2]; decide) (by decide) rfl rfl rfl (fun r5 G5 M5 hpo _ => ?_)
  obtain ⟨e1, e2, b5, rfl, hb5⟩ := hpo
  rw [e1, e2]
  show sx_X SC E (0, 0) GL M 8 [(0, sx_A (0)), (1, sx_I (p))] [sx_I (b5)]
  refine sx_if_eq C 26 ⟨by omega, by omega⟩ d_Si_chosen_8 (by decide) (fun c8 => ?_) (fun c8 => ?_)
  · refine sx_iconst C d_Si_chosen_26 ?_
    refine sx_zreturn C Rr (by omega) rfl d_Si_chosen_27 ?_
    exact ⟨rfl, rfl, 0, rfl, Or.inr ⟨rfl, by rintro ⟨z1, z2⟩; first | (rcases hb5 with ⟨q3, q4⟩ | ⟨q3, q4⟩; omega; exact q4 z1) | (rcases hb16 with ⟨q3, q4⟩ | ⟨q3, q4⟩; omega; exact q4 z2)⟩⟩
  · refine sx_aload_n C 0 d_Si_chosen_11 rfl rfl ?_
    refine sx_getr C f_Si_26 33 (by decide) rfl rfl d_Si_chosen_12 ?_
    refine sx_iload_n C 1 d_Si_chosen_15 rfl rfl ?_
    refine sx_callV (n := 71) (As := [sx_I (p)]) (st := []) C (ct_He_gives _ _ _ M hI.2.2.1 p hx) rfl (by decide) rfl (cv_Si_139 E C _ (by rw [Rr.2.2]; decide)) (Nat.le_of_ble_eq_true rfl) d_Si_chosen_16 (by rw [Rr.2.2]; decide) (by decide) rfl rfl rfl (fun r16 G16 M16 hpo _ => ?_)
    obtain ⟨e1, e2, b16, rfl, hb16⟩ := hpo
    rw [e1, e2]
    show sx_X SC E (0, 0) GL M 19 [(0, sx_A (0)), (1, sx_I (p))] [sx_I (b16)]
    refine sx_if_eq C 26 ⟨by omega, by omega⟩ d_Si_chosen_19 (by decide) (fun c19 => ?_) (fun c19 => ?_)
    · refine sx_iconst C d_Si_chosen_26 ?_
      refine sx_zreturn C Rr (by omega) rfl d_Si_chosen_27 ?_
      exact ⟨rfl, rfl, 0, rfl, Or.inr ⟨rfl, by rintro ⟨z1, z2⟩; first | (rcases hb5 with ⟨q3, q4⟩ | ⟨q3, q4⟩; omega; exact q4 z1) | (rcases hb16 with ⟨q3, q4⟩ | ⟨q3, q4⟩; omega; exact q4 z2)⟩⟩
    · refine sx_iconst C d_Si_chosen_22 ?_
      refine sx_goto C 27 d_Si_chosen_23 (by decide) ?_
      refine sx_zreturn C Rr (by omega) rfl d_Si_chosen_27 ?_
      exact ⟨rfl, rfl, 1, rfl, Or.inl ⟨rfl, by rcases hb16 with ⟨q1, q2⟩ | ⟨q1, q2⟩ <;> rcases hb5 with ⟨q3, q4⟩ | ⟨q3, q4⟩ <;> first | omega | exact ⟨q4, q2⟩⟩⟩
