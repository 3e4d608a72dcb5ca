/-! the world after both constructors: which cell is what, and what refers to what -/
def shL : Nat → Nat × Nat := fun k => match k with
  | 0 => (0, 5)
  | 1 => (0, 0)
  | 2 => (3, 6)
  | 3 => (3, 6)
  | 4 => (4, 6)
  | 5 => (3, 5)
  | 6 => (3, 5)
  | 7 => (3, 5)
  | 8 => (3, 5)
  | 9 => (3, 5)
  | 10 => (3, 5)
  | 11 => (3, 5)
  | 12 => (3, 5)
  | 13 => (3, 5)
  | 14 => (3, 5)
  | 15 => (3, 5)
  | 16 => (2, 5)
  | 17 => (0, 1)
  | 18 => (3, 6)
  | 19 => (3, 5)
  | 20 => (4, 6)
  | 21 => (3, 5)
  | 22 => (3, 5)
  | 23 => (3, 5)
  | 24 => (3, 5)
  | 25 => (3, 5)
  | 26 => (3, 5)
  | 27 => (2, 32)
  | 28 => (3, 32)
  | 29 => (3, 7)
  | 30 => (3, 5)
  | 31 => (1, 6)
  | 32 => (1, 6)
  | 33 => (0, 2)
  | 34 => (1, 6)
  | 35 => (0, 3)
  | 36 => (1, 6)
  | 37 => (0, 4)
  | 38 => (1, 6)
  | 39 => (4, 6)
  | 40 => (3, 32)
  | 41 => (3, 32)
  | 42 => (3, 32)
  | 43 => (3, 32)
  | 44 => (3, 32)
  | 45 => (3, 32)
  | 46 => (4, 6)
  | 47 => (3, 32)
  | 48 => (3, 32)
  | 49 => (3, 32)
  | 50 => (3, 32)
  | 51 => (3, 32)
  | 52 => (3, 32)
  | 53 => (0, 6)
  | 54 => (3, 6)
  | 55 => (3, 6)
  | 56 => (3, 5)
  | 57 => (3, 5)
  | 58 => (3, 5)
  | 59 => (3, 5)
  | 60 => (3, 5)
  | 61 => (2, 5)
  | 62 => (3, 30)
  | 63 => (1, 6)
  | 64 => (1, 6)
  | 65 => (1, 6)
  | 66 => (3, 6)
  | 67 => (1, 6)
  | 68 => (3, 192)
  | 69 => (3, 192)
  | 70 => (3, 224)
  | _ => (0, 0)
def rfL : Nat → Nat → Option Nat := fun k => match k with
  | 0 => fun j => match j with
    | 0 => some 1
    | 1 => some 17
    | 2 => some 33
    | 3 => some 35
    | 4 => some 37
    | _ => none
  | 1 => fun j => match j with
    | 3 => some 2
    | 4 => some 3
    | 5 => some 4
    | 6 => some 11
    | 7 => some 12
    | 8 => some 13
    | 9 => some 14
    | 10 => some 15
    | 11 => some 16
    | _ => none
  | 4 => fun j => if j < 6 then some (4 + 1 + j) else none
  | 17 => fun j => match j with
    | 2 => some 18
    | 3 => some 19
    | 4 => some 20
    | 5 => some 27
    | 6 => some 28
    | 7 => some 29
    | 8 => some 30
    | 9 => some 31
    | 10 => some 32
    | _ => none
  | 20 => fun j => if j < 6 then some (20 + 1 + j) else none
  | 33 => fun j => match j with
    | 2 => some 34
    | _ => none
  | 35 => fun j => match j with
    | 1 => some 36
    | _ => none
  | 37 => fun j => match j with
    | 1 => some 38
    | 2 => some 39
    | 3 => some 46
    | _ => none
  | 39 => fun j => if j < 6 then some (39 + 1 + j) else none
  | 46 => fun j => if j < 6 then some (46 + 1 + j) else none
  | 53 => fun j => match j with
    | 2 => some 54
    | 3 => some 55
    | 4 => some 56
    | 5 => some 57
    | 6 => some 58
    | 7 => some 59
    | 8 => some 60
    | 9 => some 61
    | 10 => some 62
    | 13 => some 63
    | 18 => some 64
    | 19 => some 65
    | 20 => some 66
    | 21 => some 67
    | 22 => some 68
    | 23 => some 69
    | 24 => some 70
    | _ => none
  | _ => fun _ => none
abbrev GL : sx_G := (71, shL, rfL)
theorem gl_4 : ∀ j, j < 6 → GL.2.1 (4 + 1 + j) = (3, 5) := by decide
theorem gl_20 : ∀ j, j < 6 → GL.2.1 (20 + 1 + j) = (3, 5) := by decide
theorem gl_39 : ∀ j, j < 6 → GL.2.1 (39 + 1 + j) = (3, 32) := by decide
theorem gl_46 : ∀ j, j < 6 → GL.2.1 (46 + 1 + j) = (3, 32) := by decide
abbrev rmk (f lo : Nat) : Room := { frames := f, cells := 0, slots := 0, locals := lo }
/-- an answer that is true or false -/
def bz (p : Prop) (r : Option sx_V) : Prop := ∃ b : Int, r = some (sx_I b) ∧ ((b = 1 ∧ p) ∨ (b = 0 ∧ ¬ p))
/-- what holds of the town's cells -/
def tw (M : sx_M0) : Prop := (0 ≤ M 1 0 ∧ M 1 0 ≤ 6) ∧ (0 ≤ M 1 1 ∧ M 1 1 ≤ 5) ∧ (0 ≤ M 1 2 ∧ M 1 2 ≤ 10000000) ∧ (∀ d, d < 6 → 0 ≤ M 2 d ∧ M 2 d ≤ 100) ∧ (∀ d, d < 6 → 0 ≤ M 3 d ∧ M 3 d ≤ 10000) ∧ (∀ d p, d < 6 → p < 5 → -1 ≤ M (4 + 1 + d) p ∧ M (4 + 1 + d) p ≤ 10000) ∧ (∀ p, p < 5 → -1000 ≤ M 11 p ∧ M 11 p ≤ 1000) ∧ (∀ p, p < 5 → -1000 ≤ M 12 p ∧ M 12 p ≤ 1000) ∧ (∀ p, p < 5 → 0 ≤ M 13 p ∧ M 13 p ≤ 1000000) ∧ (∀ p, p < 5 → 0 ≤ M 14 p ∧ M 14 p ≤ 1000) ∧ (∀ p, p < 5 → 0 ≤ M 15 p ∧ M 15 p ≤ 3000) ∧ (∀ p, p < 5 → M 16 p = 0 ∨ M 16 p = 1)
/-- the metres to a place that isn't barred and to which the district can go, or -1 -/
def rcS (M : sx_M0) (d p : Nat) : Int := if (d : Int) < M 1 0 ∧ (p : Int) < M 1 1 ∧ M 16 p = 0 ∧ M (4 + 1 + d) p ≠ -1 ∧ M (4 + 1 + d) p ≤ M 3 d then M (4 + 1 + d) p else -1
set_option maxRecDepth 100000 in
set_option maxHeartbeats 4000000 in
theorem ct_Si_isWithin (l : Launch) (D : va_G) (tc : Nat → ClassId) (M : sx_M0) (x lo hi : Int) (hx : sx_r64 x) (hlo : sx_r64 lo) (hhi : sx_r64 hi) : sx_Met SC l D tc y_Si_isWithin w_Si_isWithin (rmk 0 0) [sx_J (x), sx_J (lo), sx_J (hi)] GL M (fun r G' M' => G' = GL ∧ M' = M ∧ bz (lo ≤ x ∧ x ≤ hi) r) := by
  refine sx_enter (by decide) rfl (Nat.le_of_ble_eq_true rfl) (Ts := g_tbl) (fun _ h => List.mem_cons_of_mem _ h) (fun E C Rr hnm hnL => ?_)
  refine sx_lload_n C 0 d_Si_isWithin_0 rfl rfl ?_
  refine sx_lload_n C 1 d_Si_isWithin_1 rfl rfl ?_
  refine sx_lcmp_lt C 17 ⟨by omega, by omega⟩ ⟨by omega, by omega⟩ d_Si_isWithin_2 d_Si_isWithin_3 (by decide) (fun c3 => ?_) (fun c3 => ?_)
  · refine sx_iconst C d_Si_isWithin_17 ?_
    refine sx_zreturn C Rr (by omega) rfl d_Si_isWithin_18 ?_
    exact ⟨rfl, rfl, 0, rfl, Or.inr ⟨rfl, by omega⟩⟩
  · refine sx_lload_n C 0 d_Si_isWithin_6 rfl rfl ?_
    refine sx_lload C 2 d_Si_isWithin_7 rfl ?_
    refine sx_lcmp_gt C 17 ⟨by omega, by omega⟩ ⟨by omega, by omega⟩ d_Si_isWithin_9 d_Si_isWithin_10 (by decide) (fun c10 => ?_) (fun c10 => ?_)
    · refine sx_iconst C d_Si_isWithin_17 ?_
      refine sx_zreturn C Rr (by omega) rfl d_Si_isWithin_18 ?_
      exact ⟨rfl, rfl, 0, rfl, Or.inr ⟨rfl, by omega⟩⟩
    · refine sx_iconst C d_Si_isWithin_13 ?_
      refine sx_goto C 18 d_Si_isWithin_14 (by decide) ?_
      refine sx_zreturn C Rr (by omega) rfl d_Si_isWithin_18 ?_
      exact ⟨rfl, rfl, 1, rfl, Or.inl ⟨rfl, by omega⟩⟩
set_option maxRecDepth 100000 in
set_option maxHeartbeats 4000000 in
theorem ct_To_hasDistrict (l : Launch) (D : va_G) (tc : Nat → ClassId) (M : sx_M0) (hT : tw M) (x : Int) (hx : sx_r32 x) : sx_Met SC l D tc y_To_hasDistrict w_To_hasDistrict (rmk 0 0) [sx_A (1), sx_I (x)] GL M (fun r G' M' => G' = GL ∧ M' = M ∧ bz (0 ≤ x ∧ x < M 1 0) r) := by
  refine sx_enter (by decide) rfl (Nat.le_of_ble_eq_true rfl) (Ts := g_tbl) (fun _ h => List.mem_cons_of_mem _ h) (fun E C Rr hnm hnL => ?_)
  have h0 := hT.1
  have h1 := hT.2.1
  refine sx_iload_n C 1 d_To_hasDistrict_0 rfl rfl ?_
  refine sx_if_lt C 16 ⟨by omega, by omega⟩ d_To_hasDistrict_1 (by decide) (fun c1 => ?_) (fun c1 => ?_)
  · refine sx_iconst C d_To_hasDistrict_16 ?_
    refine sx_zreturn C Rr (by omega) rfl d_To_hasDistrict_17 ?_
    exact ⟨rfl, rfl, 0, rfl, Or.inr ⟨rfl, by omega⟩⟩
  · refine sx_iload_n C 1 d_To_hasDistrict_4 rfl rfl ?_
    refine sx_aload_n C 0 d_To_hasDistrict_5 rfl rfl ?_
    refine sx_geti C f_To_9 (by decide) rfl d_To_hasDistrict_6 ?_
    refine sx_icmp_ge C 16 ⟨by omega, by omega⟩ ⟨by omega, by omega⟩ d_To_hasDistrict_9 (by decide) (fun c9 => ?_) (fun c9 => ?_)
    · refine sx_iconst C d_To_hasDistrict_16 ?_
      refine sx_zreturn C Rr (by omega) rfl d_To_hasDistrict_17 ?_
      exact ⟨rfl, rfl, 0, rfl, Or.inr ⟨rfl, by omega⟩⟩
    · refine sx_iconst C d_To_hasDistrict_12 ?_
      refine sx_goto C 17 d_To_hasDistrict_13 (by decide) ?_
      refine sx_zreturn C Rr (by omega) rfl d_To_hasDistrict_17 ?_
      exact ⟨rfl, rfl, 1, rfl, Or.inl ⟨rfl, by omega⟩⟩
set_option maxRecDepth 100000 in
set_option maxHeartbeats 4000000 in
theorem ct_To_hasPlace (l : Launch) (D : va_G) (tc : Nat → ClassId) (M : sx_M0) (hT : tw M) (x : Int) (hx : sx_r32 x) : sx_Met SC l D tc y_To_hasPlace w_To_hasPlace (rmk 0 0) [sx_A (1), sx_I (x)] GL M (fun r G' M' => G' = GL ∧ M' = M ∧ bz (0 ≤ x ∧ x < M 1 1) r) := by
  refine sx_enter (by decide) rfl (Nat.le_of_ble_eq_true rfl) (Ts := g_tbl) (fun _ h => List.mem_cons_of_mem _ h) (fun E C Rr hnm hnL => ?_)
  have h0 := hT.1
  have h1 := hT.2.1
  refine sx_iload_n C 1 d_To_hasPlace_0 rfl rfl ?_
  refine sx_if_lt C 16 ⟨by omega, by omega⟩ d_To_hasPlace_1 (by decide) (fun c1 => ?_) (fun c1 => ?_)
  · refine sx_iconst C d_To_hasPlace_16 ?_
    refine sx_zreturn C Rr (by omega) rfl d_To_hasPlace_17 ?_
    exact ⟨rfl, rfl, 0, rfl, Or.inr ⟨rfl, by omega⟩⟩
  · refine sx_iload_n C 1 d_To_hasPlace_4 rfl rfl ?_
    refine sx_aload_n C 0 d_To_hasPlace_5 rfl rfl ?_
    refine sx_geti C f_To_15 (by decide) rfl d_To_hasPlace_6 ?_
    refine sx_icmp_ge C 16 ⟨by omega, by omega⟩ ⟨by omega, by omega⟩ d_To_hasPlace_9 (by decide) (fun c9 => ?_) (fun c9 => ?_)
    · refine sx_iconst C d_To_hasPlace_16 ?_
      refine sx_zreturn C Rr (by omega) rfl d_To_hasPlace_17 ?_
      exact ⟨rfl, rfl, 0, rfl, Or.inr ⟨rfl, by omega⟩⟩
    · refine sx_iconst C d_To_hasPlace_12 ?_
      refine sx_goto C 17 d_To_hasPlace_13 (by decide) ?_
      refine sx_zreturn C Rr (by omega) rfl d_To_hasPlace_17 ?_
      exact ⟨rfl, rfl, 1, rfl, Or.inl ⟨rfl, by omega⟩⟩
set_option maxRecDepth 100000 in
set_option maxHeartbeats 4000000 in
theorem ct_To_reach (l : Launch) (D : va_G) (tc : Nat → ClassId) (M : sx_M0) (hT : tw M) (d p : Nat) (hd : d ≤ 6) (hp : p ≤ 5) : sx_Met SC l D tc y_To_reach w_To_reach (rmk 1 40) [sx_A (1), sx_I (((d : Nat) : Int)), sx_I (((p : Nat) : Int))] GL M (fun r G' M' => G' = GL ∧ M' = M ∧ r = some (sx_J (rcS M d p))) := by
  refine sx_enter (by decide) rfl (Nat.le_of_ble_eq_true rfl) (Ts := g_tbl) (fun _ h => List.mem_cons_of_mem _ h) (fun E C Rr hnm hnL => ?_)
  have h0 := hT.1
  have h1 := hT.2.1
  refine sx_aload_n C 0 d_To_reach_0 rfl rfl ?_
  refine sx_iload_n C 1 d_To_reach_1 rfl rfl ?_
  refine sx_callV (n := 71) (As := [sx_I (((d : Nat) : Int))]) (st := []) C (ct_To_hasDistrict _ _ _ M hT ((d : Nat) : Int) (by constructor <;> omega)) rfl (by decide) rfl (cv_To_65 E C _ (by rw [Rr.2.2]; decide)) (Nat.le_of_ble_eq_true rfl) d_To_reach_2 (by rw [Rr.2.2]; decide) (by decide) rfl rfl rfl (fun r2 G2 M2 hpo _ => ?_)
  obtain ⟨e1, e2, b2, rfl, hb2⟩ := hpo
  rw [e1, e2]
  show sx_X SC E (0, 0) GL M 5 [(0, sx_A (1)), (1, sx_I (((d : Nat) : Int))), (2, sx_I (((p : Nat) : Int)))] [sx_I (b2)]
  refine sx_if_eq C 25 ⟨by omega, by omega⟩ d_To_reach_5 (by decide) (fun c5 => ?_) (fun c5 => ?_)
  · refine sx_ldc2 (v := (-1)) C (-1) (tb_ 226 (by decide +kernel) rfl) (by decide) d_To_reach_25 ?_
    refine sx_lreturn C Rr rfl d_To_reach_28 ?_
    exact ⟨rfl, rfl, by rw [rcS, if_neg (by omega)]⟩
  · refine sx_aload_n C 0 d_To_reach_8 rfl rfl ?_
    refine sx_iload_n C 2 d_To_reach_9 rfl rfl ?_
    refine sx_callV (n := 71) (As := [sx_I (((p : Nat) : Int))]) (st := []) C (ct_To_hasPlace _ _ _ M hT ((p : Nat) : Int) (by constructor <;> omega)) rfl (by decide) rfl (cv_To_69 E C _ (by rw [Rr.2.2]; decide)) (Nat.le_of_ble_eq_true rfl) d_To_reach_10 (by rw [Rr.2.2]; decide) (by decide) rfl rfl rfl (fun r10 G10 M10 hpo _ => ?_)
    obtain ⟨e1, e2, b10, rfl, hb10⟩ := hpo
    rw [e1, e2]
    show sx_X SC E (0, 0) GL M 13 [(0, sx_A (1)), (1, sx_I (((d : Nat) : Int))), (2, sx_I (((p : Nat) : Int)))] [sx_I (b10)]
    refine sx_if_eq C 25 ⟨by omega, by omega⟩ d_To_reach_13 (by decide) (fun c13 => ?_) (fun c13 => ?_)
    · refine sx_ldc2 (v := (-1)) C (-1) (tb_ 226 (by decide +kernel) rfl) (by decide) d_To_reach_25 ?_
      refine sx_lreturn C Rr rfl d_To_reach_28 ?_
      exact ⟨rfl, rfl, by rw [rcS, if_neg (by omega)]⟩
    · have h16 := hT.2.2.2.2.2.2.2.2.2.2.2 p (by omega)
      refine sx_aload_n C 0 d_To_reach_16 rfl rfl ?_
      refine sx_getr C f_To_51 16 (by decide) rfl rfl d_To_reach_17 ?_
      refine sx_iload_n C 2 d_To_reach_20 rfl rfl ?_
      refine sx_zaload C p (by decide) rfl rfl rfl (by omega) (by decide) d_To_reach_21 ?_
      refine sx_if_eq C 29 ⟨by omega, by omega⟩ d_To_reach_22 (by decide) (fun c22 => ?_) (fun c22 => ?_)
      · have hm := hT.2.2.2.2.2.1 d p (by omega) (by omega)
        have hq := hT.2.2.2.2.1 d (by omega)
        refine sx_aload_n C 0 d_To_reach_29 rfl rfl ?_
        refine sx_getr C f_To_33 4 (by decide) rfl rfl d_To_reach_30 ?_
        refine sx_iload_n C 1 d_To_reach_33 rfl rfl ?_
        refine sx_aaload C d (4 + 1 + d) (by decide) rfl rfl rfl (by omega) (by decide) (if_pos (by omega)) d_To_reach_34 ?_
        refine sx_iload_n C 2 d_To_reach_35 rfl rfl ?_
        refine sx_laload C p (by show (4 + 1 + d) < 71; omega) (gl_4 _ (by omega)) rfl rfl (by omega) (by decide) d_To_reach_36 ?_
        refine sx_lstore_n (lv' := [(3, sx_J (M (4 + 1 + d) p)), (0, sx_A (1)), (1, sx_I (((d : Nat) : Int))), (2, sx_I (((p : Nat) : Int)))]) C d_To_reach_37 rfl (by rw [hnL]; decide) rfl ?_
        refine sx_lload_n C 0 d_To_reach_38 rfl rfl ?_
        refine sx_ldc2 (v := (-1)) C (-1) (tb_ 226 (by decide +kernel) rfl) (by decide) d_To_reach_39 ?_
        refine sx_lcmp_eq C 61 ⟨by omega, by omega⟩ ⟨by omega, by omega⟩ d_To_reach_42 d_To_reach_43 (by decide) (fun c43 => ?_) (fun c43 => ?_)
        · refine sx_ldc2 (v := (-1)) C (-1) (tb_ 226 (by decide +kernel) rfl) (by decide) d_To_reach_61 ?_
          refine sx_lreturn C Rr rfl d_To_reach_64 ?_
          exact ⟨rfl, rfl, by rw [rcS, if_neg (by omega)]⟩
        · refine sx_lload_n C 0 d_To_reach_46 rfl rfl ?_
          refine sx_aload_n C 1 d_To_reach_47 rfl rfl ?_
          refine sx_getr C f_To_28 3 (by decide) rfl rfl d_To_reach_48 ?_
          refine sx_iload_n C 2 d_To_reach_51 rfl rfl ?_
          refine sx_laload C d (by decide) rfl rfl rfl (by omega) (by decide) d_To_reach_52 ?_
          refine sx_lcmp_gt C 61 ⟨by omega, by omega⟩ ⟨by omega, by omega⟩ d_To_reach_53 d_To_reach_54 (by decide) (fun c54 => ?_) (fun c54 => ?_)
          · refine sx_ldc2 (v := (-1)) C (-1) (tb_ 226 (by decide +kernel) rfl) (by decide) d_To_reach_61 ?_
            refine sx_lreturn C Rr rfl d_To_reach_64 ?_
            exact ⟨rfl, rfl, by rw [rcS, if_neg (by omega)]⟩
          · refine sx_lload_n C 0 d_To_reach_57 rfl rfl ?_
            refine sx_goto C 64 d_To_reach_58 (by decide) ?_
            refine sx_lreturn C Rr rfl d_To_reach_64 ?_
            exact ⟨rfl, rfl, by rw [rcS, if_pos (by omega)]⟩
      · refine sx_ldc2 (v := (-1)) C (-1) (tb_ 226 (by decide +kernel) rfl) (by decide) d_To_reach_25 ?_
        refine sx_lreturn C Rr rfl d_To_reach_28 ?_
        exact ⟨rfl, rfl, by rw [rcS, if_neg (by omega)]⟩
theorem rcS_bd {M : sx_M0} (hT : tw M) {d p : Nat} (hd : d < 6) (hp : p < 5) : -1 ≤ rcS M d p ∧ rcS M d p ≤ 10000 := by
  unfold rcS
  have := hT.2.2.2.2.2.1 d p hd hp
  split <;> omega
/-- of the first n places, how many are reached -/
def crS (M : sx_M0) (d : Nat) : Nat → Int
  | 0 => 0
  | p + 1 => crS M d p + (if rcS M d p = -1 then 0 else 1)
theorem crS_bd (M : sx_M0) (d : Nat) : ∀ n, 0 ≤ crS M d n ∧ crS M d n ≤ n
  | 0 => by simp [crS]
  | n + 1 => by
    have := crS_bd M d n
    unfold crS
    split <;> omega
set_option maxRecDepth 100000 in
set_option maxHeartbeats 4000000 in
theorem lp_To_countReached  (M : sx_M0) (hT : tw M) (d : Nat) (hd : d < 6) {E : sx_E} (C : sx_C SC g_tbl "SiteChoice$Town" c_To_countReached E) (Rr : sx_Ret SC (some .long) (rmk 2 80) (fun r G' M' => G' = GL ∧ M' = M ∧ r = some (sx_J (crS M d (M 1 1).toNat))) E) (hnL : sx_nL E = 5) : ∀ (nF : Nat) (p : Nat) (c : Int), (M 1 1).toNat - p < nF → c = crS M d p → p ≤ (M 1 1).toNat → sx_X SC E (0, 0) GL M 5 [(4, sx_I (((p : Nat) : Int))), (2, sx_J (c)), (0, sx_A (1)), (1, sx_I (((d : Nat) : Int)))] [] := by
  intro nF
  induction nF with
  | zero => intro p c h; omega
  | succ nF ih =>
    intro p c hn h1 h2
    have g1 := hT.2.1
    refine sx_iload C 0 d_To_countReached_5 rfl ?_
    refine sx_aload_n C 2 d_To_countReached_7 rfl rfl ?_
    refine sx_geti C f_To_15 (by decide) rfl d_To_countReached_8 ?_
    refine sx_icmp_ge C 38 ⟨by omega, by omega⟩ ⟨by omega, by omega⟩ d_To_countReached_11 (by decide) (fun c11 => ?_) (fun c11 => ?_)
    · refine sx_lload_n C 1 d_To_countReached_38 rfl rfl ?_
      refine sx_lreturn C Rr rfl d_To_countReached_39 ?_
      exact ⟨rfl, rfl, by rw [h1, show p = (M 1 1).toNat by omega]⟩
    · refine sx_aload_n C 2 d_To_countReached_14 rfl rfl ?_
      refine sx_iload_n C 3 d_To_countReached_15 rfl rfl ?_
      refine sx_iload C 0 d_To_countReached_16 rfl ?_
      refine sx_callV (n := 71) (As := [sx_I (((d : Nat) : Int)), sx_I (((p : Nat) : Int))]) (st := []) C (ct_To_reach _ _ _ M hT d p (by omega) (by omega)) rfl (by decide) rfl (cv_To_76 E C _ (by rw [Rr.2.2]; decide)) (Nat.le_of_ble_eq_true rfl) d_To_countReached_18 (by rw [Rr.2.2]; decide) (by decide) rfl rfl rfl (fun r18 G18 M18 hpo _ => ?_)
      obtain ⟨e1, e2, rfl⟩ := hpo
      rw [e1, e2]
      show sx_X SC E (0, 0) GL M 21 [(4, sx_I (((p : Nat) : Int))), (2, sx_J (c)), (0, sx_A (1)), (1, sx_I (((d : Nat) : Int)))] [sx_J (rcS M d p)]
      have hr := rcS_bd hT (d := d) (p := p) (by omega) (by omega)
      refine sx_ldc2 (v := (-1)) C (-1) (tb_ 226 (by decide +kernel) rfl) (by decide) d_To_countReached_21 ?_
      refine sx_lcmp_eq C 32 ⟨by omega, by omega⟩ ⟨by omega, by omega⟩ d_To_countReached_24 d_To_countReached_25 (by decide) (fun c25 => ?_) (fun c25 => ?_)
      · refine sx_iinc (lv' := [(4, sx_I (((p + 1 : Nat) : Int))), (2, sx_J (c)), (0, sx_A (1)), (1, sx_I (((d : Nat) : Int)))]) C 0 d_To_countReached_32 rfl (by rw [hnL]; decide) rfl ?_
        refine sx_goto C 5 d_To_countReached_35 (by decide) ?_
        refine sx_sub [0, 1, 2, 3] rfl ?_
        exact ih (p + 1) _ (by omega) (by simp [crS, h1, c25]) (by omega)
      · refine sx_lload_n C 1 d_To_countReached_28 rfl rfl ?_
        refine sx_lconst C 1 rfl d_To_countReached_29 ?_
        refine sx_ladd C d_To_countReached_30 ?_
        refine sx_lstore_n (lv' := [(2, sx_J (c + 1)), (4, sx_I (((p : Nat) : Int))), (0, sx_A (1)), (1, sx_I (((d : Nat) : Int)))]) C d_To_countReached_31 rfl (by rw [hnL]; decide) rfl ?_
        refine sx_iinc (lv' := [(4, sx_I (((p + 1 : Nat) : Int))), (2, sx_J (c + 1)), (0, sx_A (1)), (1, sx_I (((d : Nat) : Int)))]) C 1 d_To_countReached_32 rfl (by rw [hnL]; decide) rfl ?_
        refine sx_goto C 5 d_To_countReached_35 (by decide) ?_
        refine sx_sub [0, 1, 2, 3] rfl ?_
        exact ih (p + 1) _ (by omega) (by simp [crS, h1, c25]) (by omega)
set_option maxRecDepth 100000 in
set_option maxHeartbeats 4000000 in
theorem ct_To_countReached (l : Launch) (D : va_G) (tc : Nat → ClassId) (M : sx_M0) (hT : tw M) (d : Nat) (hd : d < 6) : sx_Met SC l D tc y_To_countReached w_To_countReached (rmk 2 80) [sx_A (1), sx_I (((d : Nat) : Int))] GL M (fun r G' M' => G' = GL ∧ M' = M ∧ r = some (sx_J (crS M d (M 1 1).toNat))) := by
  refine sx_enter (by decide) rfl (Nat.le_of_ble_eq_true rfl) (Ts := g_tbl) (fun _ h => List.mem_cons_of_mem _ h) (fun E C Rr hnm hnL => ?_)
  refine sx_lconst C 0 rfl d_To_countReached_0 ?_
  refine sx_lstore_n (lv' := [(2, sx_J (0)), (0, sx_A (1)), (1, sx_I (((d : Nat) : Int)))]) C d_To_countReached_1 rfl (by rw [hnL]; decide) rfl ?_
  refine sx_iconst C d_To_countReached_2 ?_
  refine sx_istore (lv' := [(4, sx_I (0)), (2, sx_J (0)), (0, sx_A (1)), (1, sx_I (((d : Nat) : Int)))]) C d_To_countReached_3 (by rw [hnL]; decide) rfl ?_
  refine sx_sub [0, 1, 2, 3] rfl ?_
  exact lp_To_countReached M hT d hd C Rr hnL _ 0 0 (Nat.lt_succ_self _) rfl (Nat.zero_le _)
/-- the ways of the first n districts -/
def wyS (M : sx_M0) : Nat → Int
  | 0 => 1
  | d + 1 => if 0 < M 2 d then wyS M d * crS M d (M 1 1).toNat else wyS M d
theorem wyS_nn (M : sx_M0) : ∀ n, 0 ≤ wyS M n
  | 0 => by simp [wyS]
  | n + 1 => by
    have h1 := wyS_nn M n
    have h2 := (crS_bd M n (M 1 1).toNat).1
    unfold wyS
    split
    · exact Int.mul_nonneg h1 h2
    · exact h1
set_option maxRecDepth 100000 in
set_option maxHeartbeats 4000000 in
theorem lp_To_countWays  (M : sx_M0) (hT : tw M) {E : sx_E} (C : sx_C SC g_tbl "SiteChoice$Town" c_To_countWays E) (Rr : sx_Ret SC (some .long) (rmk 3 120) (fun r G' M' => G' = GL ∧ M' = M ∧ r = some (sx_J (wyS M (M 1 0).toNat))) E) (hnL : sx_nL E = 4) : ∀ (nF : Nat) (d : Nat) (c : Int), (M 1 0).toNat - d < nF → c = wyS M d → d ≤ (M 1 0).toNat → sx_X SC E (0, 0) GL M 4 [(3, sx_I (((d : Nat) : Int))), (1, sx_J (c)), (0, sx_A (1))] [] := by
  intro nF
  induction nF with
  | zero => intro d c h; omega
  | succ nF ih =>
    intro d c hn h1 h2
    have g0 := hT.1
    have g1 := hT.2.1
    refine sx_iload_n C 0 d_To_countWays_4 rfl rfl ?_
    refine sx_aload_n C 2 d_To_countWays_5 rfl rfl ?_
    refine sx_geti C f_To_9 (by decide) rfl d_To_countWays_6 ?_
    refine sx_icmp_ge C 37 ⟨by omega, by omega⟩ ⟨by omega, by omega⟩ d_To_countWays_9 (by decide) (fun c9 => ?_) (fun c9 => ?_)
    · refine sx_lload_n C 1 d_To_countWays_37 rfl rfl ?_
      refine sx_lreturn C Rr rfl d_To_countWays_38 ?_
      exact ⟨rfl, rfl, by rw [h1, show d = (M 1 0).toNat by omega]⟩
    · have hN := hT.2.2.2.1 d (by omega)
      refine sx_aload_n C 2 d_To_countWays_12 rfl rfl ?_
      refine sx_getr C f_To_24 2 (by decide) rfl rfl d_To_countWays_13 ?_
      refine sx_iload_n C 0 d_To_countWays_16 rfl rfl ?_
      refine sx_laload C d (by decide) rfl rfl rfl (by omega) (by decide) d_To_countWays_17 ?_
      refine sx_lconst C 0 rfl d_To_countWays_18 ?_
      refine sx_lcmp_le C 31 ⟨by omega, by omega⟩ ⟨by omega, by omega⟩ d_To_countWays_19 d_To_countWays_20 (by decide) (fun c20 => ?_) (fun c20 => ?_)
      · refine sx_iinc (lv' := [(3, sx_I (((d + 1 : Nat) : Int))), (1, sx_J (c)), (0, sx_A (1))]) C 0 d_To_countWays_31 rfl (by rw [hnL]; decide) rfl ?_
        refine sx_goto C 4 d_To_countWays_34 (by decide) ?_
        refine sx_sub [0, 1, 2] rfl ?_
        exact ih (d + 1) _ (by omega) (by simp [wyS, h1]; omega) (by omega)
      · refine sx_lload_n C 1 d_To_countWays_23 rfl rfl ?_
        refine sx_aload_n C 2 d_To_countWays_24 rfl rfl ?_
        refine sx_iload_n C 0 d_To_countWays_25 rfl rfl ?_
        refine sx_callV (n := 71) (As := [sx_I (((d : Nat) : Int))]) (st := [sx_J (c)]) C (ct_To_countReached _ _ _ M hT d (by omega)) rfl (by decide) rfl (cv_To_72 E C _ (by rw [Rr.2.2]; decide)) (Nat.le_of_ble_eq_true rfl) d_To_countWays_26 (by rw [Rr.2.2]; decide) (by decide) rfl rfl rfl (fun r26 G26 M26 hpo _ => ?_)
        obtain ⟨e1, e2, rfl⟩ := hpo
        rw [e1, e2]
        show sx_X SC E (0, 0) GL M 29 [(3, sx_I (((d : Nat) : Int))), (1, sx_J (c)), (0, sx_A (1))] [sx_J (crS M d (M 1 1).toNat), sx_J (c)]
        refine sx_lmul C d_To_countWays_29 ?_
        refine sx_lstore_n (lv' := [(1, sx_J (c * (crS M d (M 1 1).toNat))), (3, sx_I (((d : Nat) : Int))), (0, sx_A (1))]) C d_To_countWays_30 rfl (by rw [hnL]; decide) rfl ?_
        refine sx_iinc (lv' := [(3, sx_I (((d + 1 : Nat) : Int))), (1, sx_J (c * (crS M d (M 1 1).toNat))), (0, sx_A (1))]) C 1 d_To_countWays_31 rfl (by rw [hnL]; decide) rfl ?_
        refine sx_goto C 4 d_To_countWays_34 (by decide) ?_
        refine sx_sub [0, 1, 2] rfl ?_
        exact ih (d + 1) _ (by omega) (by simp [wyS, h1]; omega) (by omega)
set_option maxRecDepth 100000 in
set_option maxHeartbeats 4000000 in
theorem ct_To_countWays (l : Launch) (D : va_G) (tc : Nat → ClassId) (M : sx_M0) (hT : tw M) : sx_Met SC l D tc y_To_countWays w_To_countWays (rmk 3 120) [sx_A (1)] GL M (fun r G' M' => G' = GL ∧ M' = M ∧ r = some (sx_J (wyS M (M 1 0).toNat))) := by
  refine sx_enter (by decide) rfl (Nat.le_of_ble_eq_true rfl) (Ts := g_tbl) (fun _ h => List.mem_cons_of_mem _ h) (fun E C Rr hnm hnL => ?_)
  refine sx_lconst C 1 rfl d_To_countWays_0 ?_
  refine sx_lstore_n (lv' := [(1, sx_J (1)), (0, sx_A (1))]) C d_To_countWays_1 rfl (by rw [hnL]; decide) rfl ?_
  refine sx_iconst C d_To_countWays_2 ?_
  refine sx_istore_n (lv' := [(3, sx_I (0)), (1, sx_J (1)), (0, sx_A (1))]) C d_To_countWays_3 rfl (by rw [hnL]; decide) rfl ?_
  refine sx_sub [0, 1, 2] rfl ?_
  exact lp_To_countWays M hT C Rr hnL _ 0 1 (Nat.lt_succ_self _) rfl (Nat.zero_le _)
theorem sq_bd {u b : Int} (h1 : -b ≤ u) (h2 : u ≤ b) : 0 ≤ u * u ∧ u * u ≤ b * b := by
  rcases Int.le_total 0 u with h | h
  · exact ⟨Int.mul_nonneg h h, Int.mul_le_mul h2 h2 h (by omega)⟩
  · have e : u * u = (-u) * (-u) := by rw [Int.neg_mul_neg]
    rw [e]
    exact ⟨Int.mul_nonneg (by omega) (by omega), Int.mul_le_mul (by omega) (by omega) (by omega) (by omega)⟩
def mxS (x y : Int) : Int := if y < x then x else y
def nrS (M : sx_M0) (p q : Nat) : Prop := (M 11 p - M 11 q) * (M 11 p - M 11 q) + (M 12 p - M 12 q) * (M 12 p - M 12 q) < mxS (M 15 p) (M 15 q) * mxS (M 15 p) (M 15 q)
set_option maxRecDepth 100000 in
set_option maxHeartbeats 4000000 in
theorem ct_To_isTooNear (l : Launch) (D : va_G) (tc : Nat → ClassId) (M : sx_M0) (hT : tw M) (p q : Nat) (hp : p < 5) (hq : q < 5) : sx_Met SC l D tc y_To_isTooNear w_To_isTooNear (rmk 1 40) [sx_A (1), sx_I (((p : Nat) : Int)), sx_I (((q : Nat) : Int))] GL M (fun r G' M' => G' = GL ∧ M' = M ∧ bz (nrS M p q) r) := by
  refine sx_enter (by decide) rfl (Nat.le_of_ble_eq_true rfl) (Ts := g_tbl) (fun _ h => List.mem_cons_of_mem _ h) (fun E C Rr hnm hnL => ?_)
  have x1 := hT.2.2.2.2.2.2.1 p hp
  have x2 := hT.2.2.2.2.2.2.1 q hq
  have y1 := hT.2.2.2.2.2.2.2.1 p hp
  have y2 := hT.2.2.2.2.2.2.2.1 q hq
  have l1 := hT.2.2.2.2.2.2.2.2.2.2.1 p hp
  have l2 := hT.2.2.2.2.2.2.2.2.2.2.1 q hq
  refine sx_aload_n C 0 d_To_isTooNear_0 rfl rfl ?_
  refine sx_getr C f_To_36 11 (by decide) rfl rfl d_To_isTooNear_1 ?_
  refine sx_iload_n C 1 d_To_isTooNear_4 rfl rfl ?_
  refine sx_laload C p (by decide) rfl rfl rfl (by omega) (by decide) d_To_isTooNear_5 ?_
  refine sx_aload_n C 0 d_To_isTooNear_6 rfl rfl ?_
  refine sx_getr C f_To_36 11 (by decide) rfl rfl d_To_isTooNear_7 ?_
  refine sx_iload_n C 2 d_To_isTooNear_10 rfl rfl ?_
  refine sx_laload C q (by decide) rfl rfl rfl (by omega) (by decide) d_To_isTooNear_11 ?_
  refine sx_lsub C d_To_isTooNear_12 ?_
  refine sx_lstore_n (lv' := [(3, sx_J ((M 11 p) - (M 11 q))), (0, sx_A (1)), (1, sx_I (((p : Nat) : Int))), (2, sx_I (((q : Nat) : Int)))]) C d_To_isTooNear_13 rfl (by rw [hnL]; decide) rfl ?_
  refine sx_aload_n C 1 d_To_isTooNear_14 rfl rfl ?_
  refine sx_getr C f_To_39 12 (by decide) rfl rfl d_To_isTooNear_15 ?_
  refine sx_iload_n C 2 d_To_isTooNear_18 rfl rfl ?_
  refine sx_laload C p (by decide) rfl rfl rfl (by omega) (by decide) d_To_isTooNear_19 ?_
  refine sx_aload_n C 1 d_To_isTooNear_20 rfl rfl ?_
  refine sx_getr C f_To_39 12 (by decide) rfl rfl d_To_isTooNear_21 ?_
  refine sx_iload_n C 3 d_To_isTooNear_24 rfl rfl ?_
  refine sx_laload C q (by decide) rfl rfl rfl (by omega) (by decide) d_To_isTooNear_25 ?_
  refine sx_lsub C d_To_isTooNear_26 ?_
  refine sx_lstore (lv' := [(5, sx_J ((M 12 p) - (M 12 q))), (3, sx_J ((M 11 p) - (M 11 q))), (0, sx_A (1)), (1, sx_I (((p : Nat) : Int))), (2, sx_I (((q : Nat) : Int)))]) C d_To_isTooNear_27 (by rw [hnL]; decide) rfl ?_
  refine sx_aload_n C 2 d_To_isTooNear_29 rfl rfl ?_
  refine sx_getr C f_To_48 15 (by decide) rfl rfl d_To_isTooNear_30 ?_
  refine sx_iload_n C 3 d_To_isTooNear_33 rfl rfl ?_
  refine sx_laload C p (by decide) rfl rfl rfl (by omega) (by decide) d_To_isTooNear_34 ?_
  refine sx_aload_n C 2 d_To_isTooNear_35 rfl rfl ?_
  refine sx_getr C f_To_48 15 (by decide) rfl rfl d_To_isTooNear_36 ?_
  refine sx_iload_n C 4 d_To_isTooNear_39 rfl rfl ?_
  refine sx_laload C q (by decide) rfl rfl rfl (by omega) (by decide) d_To_isTooNear_40 ?_
  refine sx_lmax C ⟨by omega, by omega⟩ ⟨by omega, by omega⟩ (tb_ 324 (by decide +kernel) rfl) (tb_ 325 (by decide +kernel) rfl) (tb_ 9 (by decide +kernel) rfl) (tb_ 326 rfl rfl) (by rw [Rr.2.2]; decide) (by rw [Rr.2.2]; decide) (by rw [Rr.2.2]; decide) (by rw [Rr.2.2]; decide) d_To_isTooNear_41 ?_
  generalize hz : (if M 15 q < M 15 p then M 15 p else M 15 q) = z
  refine sx_lstore (lv' := [(7, sx_J (z)), (5, sx_J ((M 12 p) - (M 12 q))), (3, sx_J ((M 11 p) - (M 11 q))), (0, sx_A (1)), (1, sx_I (((p : Nat) : Int))), (2, sx_I (((q : Nat) : Int)))]) C d_To_isTooNear_44 (by rw [hnL]; decide) rfl ?_
  refine sx_lload_n C 2 d_To_isTooNear_46 rfl rfl ?_
  refine sx_lload_n C 2 d_To_isTooNear_47 rfl rfl ?_
  refine sx_lmul C d_To_isTooNear_48 ?_
  refine sx_lload C 1 d_To_isTooNear_49 rfl ?_
  refine sx_lload C 1 d_To_isTooNear_51 rfl ?_
  refine sx_lmul C d_To_isTooNear_53 ?_
  refine sx_ladd C d_To_isTooNear_54 ?_
  refine sx_lload C 0 d_To_isTooNear_55 rfl ?_
  refine sx_lload C 0 d_To_isTooNear_57 rfl ?_
  refine sx_lmul C d_To_isTooNear_59 ?_
  have s1 := sq_bd (u := M 11 p - M 11 q) (b := 2000) (by omega) (by omega)
  have s2 := sq_bd (u := M 12 p - M 12 q) (b := 2000) (by omega) (by omega)
  have s3 := sq_bd (u := z) (b := 3000) (by rw [← hz]; split <;> omega) (by rw [← hz]; split <;> omega)
  refine sx_lcmp_ge C 68 ⟨by have := s1; have := s2; omega, by have := s1; have := s2; omega⟩ ⟨by have := s1; have := s2; omega, by have := s1; have := s2; omega⟩ d_To_isTooNear_60 d_To_isTooNear_61 (by decide) (fun c61 => ?_) (fun c61 => ?_)
  · refine sx_iconst C d_To_isTooNear_68 ?_
    refine sx_zreturn C Rr (by omega) rfl d_To_isTooNear_69 ?_
    exact ⟨rfl, rfl, 0, rfl, Or.inr ⟨rfl, by unfold nrS mxS; rw [hz]; omega⟩⟩
  · refine sx_iconst C d_To_isTooNear_64 ?_
    refine sx_goto C 69 d_To_isTooNear_65 (by decide) ?_
    refine sx_zreturn C Rr (by omega) rfl d_To_isTooNear_69 ?_
    exact ⟨rfl, rfl, 1, rfl, Or.inl ⟨rfl, by unfold nrS mxS; rw [hz]; omega⟩⟩
