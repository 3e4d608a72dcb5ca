def ncS (M : sx_M0) (o b : Nat) : Nat → Int
  | 0 => 0
  | p + 1 => ncS M o b p + (if o.testBit p = true ∧ ¬ b.testBit p = true then M 13 p else 0)
theorem nc_bd {M : sx_M0} (hT : tw M) {o b : Nat} : ∀ {n : Nat}, n ≤ 5 → 0 ≤ ncS M o b n ∧ ncS M o b n ≤ 1000000 * (n : Int)
  | 0, _ => by simp [ncS]
  | n + 1, h => by
    have ih := nc_bd hT (o := o) (b := b) (n := n) (by omega)
    have q := hT.2.2.2.2.2.2.2.2.1 n (by omega)
    show 0 ≤ ncS M o b n + (if o.testBit n = true ∧ ¬ b.testBit n = true then M 13 n else 0) ∧ ncS M o b n + (if o.testBit n = true ∧ ¬ b.testBit n = true then M 13 n else 0) ≤ _
    split <;> omega
theorem nc_congr {M M' : sx_M0} (h : M' 13 = M 13) {o b : Nat} : ∀ {n : Nat}, ncS M' o b n = ncS M o b n
  | 0 => rfl
  | n + 1 => by
    show ncS M' o b n + (if o.testBit n = true ∧ ¬ b.testBit n = true then M' 13 n else 0) = ncS M o b n + (if o.testBit n = true ∧ ¬ b.testBit n = true then M 13 n else 0)
    rw [nc_congr h, h]
set_option maxRecDepth 100000 in
set_option maxHeartbeats 4000000 in
theorem lp_Mo_yearCost  (M : sx_M0) (hT : tw M) (hr : rT M) (y o b : Nat) (hy : y ≤ 5) (ho : o < 32) (hb : b < 32) {E : sx_E} (C : sx_C SC g_tbl "SiteChoiceModel" c_Mo_yearCost E) (Rr : sx_Ret SC (some .long) (rmk 1 40) (fun r G' M' => G' = GL ∧ M' = M ∧ r = some (sx_J (M 69 (32 * y + o) + ncS M o b (M 1 1).toNat))) E) (hnL : sx_nL E = 7) : ∀ (nF : Nat) (p : Nat), (M 1 1).toNat - p < nF → p ≤ (M 1 1).toNat → sx_X SC E (0, 0) GL M 16 [(6, sx_I (((p : Nat) : Int))), (4, sx_J (M 69 (32 * y + o) + ncS M o b p)), (0, sx_A (53)), (1, sx_I (((y : Nat) : Int))), (2, sx_I (((o : Nat) : Int))), (3, sx_I (((b : Nat) : Int)))] [] := by
  intro nF
  induction nF with
  | zero => intro p h; omega
  | succ nF ih =>
    intro p hn h1
    have g1 := hT.2.1
    have r1 := hr.2.1
    refine sx_iload C 0 d_Mo_yearCost_16 rfl ?_
    refine sx_aload_n C 2 d_Mo_yearCost_18 rfl rfl ?_
    refine sx_geti C f_Mo_77 (by decide) rfl d_Mo_yearCost_19 ?_
    refine sx_icmp_ge C 65 ⟨by omega, by omega⟩ ⟨by omega, by omega⟩ d_Mo_yearCost_22 (by decide) (fun c22 => ?_) (fun c22 => ?_)
    · refine sx_lload C 1 d_Mo_yearCost_65 rfl ?_
      refine sx_lreturn C Rr rfl d_Mo_yearCost_67 ?_
      rw [show p = (M 1 1).toNat by omega]
      exact ⟨rfl, rfl, rfl⟩
    · obtain ⟨ep1, ep2, ep3, ep4, ep5, ep6⟩ := hr.2.2.2.2.2.2 p (by omega)
      refine sx_lload C 1 d_Mo_yearCost_25 rfl ?_
      refine sx_iload_n C 4 d_Mo_yearCost_27 rfl rfl ?_
      refine sx_iload C 0 d_Mo_yearCost_28 rfl ?_
      refine sx_callS (n := 71) (As := [sx_I (((o : Nat) : Int)), sx_I (((p : Nat) : Int))]) (st := [sx_J (M 69 (32 * y + o) + ncS M o b p)]) C (ct_Mo_has _ _ _ M o p (by omega) (by omega)) (cv_Mo_105 E C _ (by rw [Rr.2.2]; decide)) (Nat.le_of_ble_eq_true rfl) d_Mo_yearCost_30 (by rw [Rr.2.2]; decide) (by decide) rfl rfl rfl (fun r30 G30 M30 hpo _ => ?_)
      obtain ⟨e1, e2, b30, rfl, hb30⟩ := hpo
      rw [e1, e2]
      show sx_X SC E (0, 0) GL M 33 [(6, sx_I (((p : Nat) : Int))), (4, sx_J (M 69 (32 * y + o) + ncS M o b p)), (0, sx_A (53)), (1, sx_I (((y : Nat) : Int))), (2, sx_I (((o : Nat) : Int))), (3, sx_I (((b : Nat) : Int)))] [sx_I (b30), sx_J (M 69 (32 * y + o) + ncS M o b p)]
      refine sx_if_eq C 55 ⟨by omega, by omega⟩ d_Mo_yearCost_33 (by decide) (fun c33 => ?_) (fun c33 => ?_)
      · refine sx_lconst C 0 rfl d_Mo_yearCost_55 ?_
        refine sx_ladd C d_Mo_yearCost_56 ?_
        rw [show (M 69 (32 * y + o) + ncS M o b p) + 0 = M 69 (32 * y + o) + ncS M o b (p + 1) from by show _ = M 69 (32 * y + o) + (ncS M o b p + (if o.testBit p = true ∧ ¬ b.testBit p = true then M 13 p else 0)); rw [if_neg (fun z => by first | (rcases hb39 with ⟨z1, z2⟩ | ⟨z1, z2⟩; (exact z.2 z2); omega) | (rcases hb30 with ⟨z1, z2⟩ | ⟨z1, z2⟩; omega; exact z2 z.1))]; omega]
        refine sx_lstore (lv' := [(4, sx_J (M 69 (32 * y + o) + ncS M o b (p + 1))), (6, sx_I (((p : Nat) : Int))), (0, sx_A (53)), (1, sx_I (((y : Nat) : Int))), (2, sx_I (((o : Nat) : Int))), (3, sx_I (((b : Nat) : Int)))]) C d_Mo_yearCost_57 (by rw [hnL]; decide) rfl ?_
        refine sx_iinc (lv' := [(6, sx_I (((p + 1 : Nat) : Int))), (4, sx_J (M 69 (32 * y + o) + ncS M o b (p + 1))), (0, sx_A (53)), (1, sx_I (((y : Nat) : Int))), (2, sx_I (((o : Nat) : Int))), (3, sx_I (((b : Nat) : Int)))]) C 1 d_Mo_yearCost_59 rfl (by rw [hnL]; decide) rfl ?_
        refine sx_goto C 16 d_Mo_yearCost_62 (by decide) ?_
        refine sx_sub [0, 1, 2, 3, 4, 5] rfl ?_
        exact ih (p + 1) (by omega) (by omega)
      · refine sx_iload_n C 5 d_Mo_yearCost_36 rfl rfl ?_
        refine sx_iload C 0 d_Mo_yearCost_37 rfl ?_
        refine sx_callS (n := 71) (As := [sx_I (((b : Nat) : Int)), sx_I (((p : Nat) : Int))]) (st := [sx_J (M 69 (32 * y + o) + ncS M o b p)]) C (ct_Mo_has _ _ _ M b p (by omega) (by omega)) (cv_Mo_105 E C _ (by rw [Rr.2.2]; decide)) (Nat.le_of_ble_eq_true rfl) d_Mo_yearCost_39 (by rw [Rr.2.2]; decide) (by decide) rfl rfl rfl (fun r39 G39 M39 hpo _ => ?_)
        obtain ⟨e1, e2, b39, rfl, hb39⟩ := hpo
        rw [e1, e2]
        show sx_X SC E (0, 0) GL M 42 [(6, sx_I (((p : Nat) : Int))), (4, sx_J (M 69 (32 * y + o) + ncS M o b p)), (0, sx_A (53)), (1, sx_I (((y : Nat) : Int))), (2, sx_I (((o : Nat) : Int))), (3, sx_I (((b : Nat) : Int)))] [sx_I (b39), sx_J (M 69 (32 * y + o) + ncS M o b p)]
        refine sx_if_ne C 55 ⟨by omega, by omega⟩ d_Mo_yearCost_42 (by decide) (fun c42 => ?_) (fun c42 => ?_)
        · refine sx_lconst C 0 rfl d_Mo_yearCost_55 ?_
          refine sx_ladd C d_Mo_yearCost_56 ?_
          rw [show (M 69 (32 * y + o) + ncS M o b p) + 0 = M 69 (32 * y + o) + ncS M o b (p + 1) from by show _ = M 69 (32 * y + o) + (ncS M o b p + (if o.testBit p = true ∧ ¬ b.testBit p = true then M 13 p else 0)); rw [if_neg (fun z => by first | (rcases hb39 with ⟨z1, z2⟩ | ⟨z1, z2⟩; (exact z.2 z2); omega) | (rcases hb30 with ⟨z1, z2⟩ | ⟨z1, z2⟩; omega; exact z2 z.1))]; omega]
          refine sx_lstore (lv' := [(4, sx_J (M 69 (32 * y + o) + ncS M o b (p + 1))), (6, sx_I (((p : Nat) : Int))), (0, sx_A (53)), (1, sx_I (((y : Nat) : Int))), (2, sx_I (((o : Nat) : Int))), (3, sx_I (((b : Nat) : Int)))]) C d_Mo_yearCost_57 (by rw [hnL]; decide) rfl ?_
          refine sx_iinc (lv' := [(6, sx_I (((p + 1 : Nat) : Int))), (4, sx_J (M 69 (32 * y + o) + ncS M o b (p + 1))), (0, sx_A (53)), (1, sx_I (((y : Nat) : Int))), (2, sx_I (((o : Nat) : Int))), (3, sx_I (((b : Nat) : Int)))]) C 1 d_Mo_yearCost_59 rfl (by rw [hnL]; decide) rfl ?_
          refine sx_goto C 16 d_Mo_yearCost_62 (by decide) ?_
          refine sx_sub [0, 1, 2, 3, 4, 5] rfl ?_
          exact ih (p + 1) (by omega) (by omega)
        · refine sx_aload_n C 2 d_Mo_yearCost_45 rfl rfl ?_
          refine sx_getr C f_Mo_22 58 (by decide) rfl rfl d_Mo_yearCost_46 ?_
          refine sx_iload C 0 d_Mo_yearCost_49 rfl ?_
          refine sx_laload C p (by decide) rfl rfl rfl (by omega) (by decide) d_Mo_yearCost_51 ?_
          refine sx_goto C 56 d_Mo_yearCost_52 (by decide) ?_
          refine sx_ladd C d_Mo_yearCost_56 ?_
          rw [show (M 69 (32 * y + o) + ncS M o b p) + (M 58 p) = M 69 (32 * y + o) + ncS M o b (p + 1) from by show _ = M 69 (32 * y + o) + (ncS M o b p + (if o.testBit p = true ∧ ¬ b.testBit p = true then M 13 p else 0)); rw [if_pos ⟨(by rcases hb30 with ⟨z1, z2⟩ | ⟨z1, z2⟩; (exact z2); (exfalso; omega)), by rcases hb39 with ⟨z1, z2⟩ | ⟨z1, z2⟩; (exfalso; omega); exact z2⟩]; omega]
          refine sx_lstore (lv' := [(4, sx_J (M 69 (32 * y + o) + ncS M o b (p + 1))), (6, sx_I (((p : Nat) : Int))), (0, sx_A (53)), (1, sx_I (((y : Nat) : Int))), (2, sx_I (((o : Nat) : Int))), (3, sx_I (((b : Nat) : Int)))]) C d_Mo_yearCost_57 (by rw [hnL]; decide) rfl ?_
          refine sx_iinc (lv' := [(6, sx_I (((p + 1 : Nat) : Int))), (4, sx_J (M 69 (32 * y + o) + ncS M o b (p + 1))), (0, sx_A (53)), (1, sx_I (((y : Nat) : Int))), (2, sx_I (((o : Nat) : Int))), (3, sx_I (((b : Nat) : Int)))]) C 1 d_Mo_yearCost_59 rfl (by rw [hnL]; decide) rfl ?_
          refine sx_goto C 16 d_Mo_yearCost_62 (by decide) ?_
          refine sx_sub [0, 1, 2, 3, 4, 5] rfl ?_
          exact ih (p + 1) (by omega) (by omega)
set_option maxRecDepth 100000 in
set_option maxHeartbeats 4000000 in
theorem ct_Mo_yearCost (l : Launch) (D : va_G) (tc : Nat → ClassId) (M : sx_M0) (hT : tw M) (hr : rT M) (y o b : Nat) (hy : y ≤ 5) (ho : o < 32) (hb : b < 32) : sx_Met SC l D tc y_Mo_yearCost w_Mo_yearCost (rmk 1 40) [sx_A (53), sx_I (((y : Nat) : Int)), sx_I (((o : Nat) : Int)), sx_I (((b : Nat) : Int))] GL M (fun r G' M' => G' = GL ∧ M' = M ∧ r = some (sx_J (M 69 (32 * y + o) + ncS M o b (M 1 1).toNat))) := by
  refine sx_enter (by decide) rfl (Nat.le_of_ble_eq_true rfl) (Ts := g_tbl) (fun _ h => List.mem_cons_of_mem _ h) (fun E C Rr hnm hnL => ?_)
  refine sx_aload_n C 0 d_Mo_yearCost_0 rfl rfl ?_
  refine sx_getr C f_Mo_63 69 (by decide) rfl rfl d_Mo_yearCost_1 ?_
  refine sx_bipush C d_Mo_yearCost_4 (by decide) ?_
  refine sx_iload_n C 1 d_Mo_yearCost_6 rfl rfl ?_
  refine sx_imul C d_Mo_yearCost_7 ?_
  refine sx_iload_n C 2 d_Mo_yearCost_8 rfl rfl ?_
  refine sx_iadd C d_Mo_yearCost_9 ?_
  refine sx_laload C (32 * y + o) (by decide) rfl rfl (by omega) (by omega) (by decide) d_Mo_yearCost_10 ?_
  rw [show M 69 (32 * y + o) = M 69 (32 * y + o) + ncS M o b 0 from (Int.add_zero _).symm]
  refine sx_lstore (lv' := [(4, sx_J (M 69 (32 * y + o) + ncS M o b 0)), (0, sx_A (53)), (1, sx_I (((y : Nat) : Int))), (2, sx_I (((o : Nat) : Int))), (3, sx_I (((b : Nat) : Int)))]) C d_Mo_yearCost_11 (by rw [hnL]; decide) rfl ?_
  refine sx_iconst C d_Mo_yearCost_13 ?_
  refine sx_istore (lv' := [(6, sx_I (0)), (4, sx_J (M 69 (32 * y + o) + ncS M o b 0)), (0, sx_A (53)), (1, sx_I (((y : Nat) : Int))), (2, sx_I (((o : Nat) : Int))), (3, sx_I (((b : Nat) : Int)))]) C d_Mo_yearCost_14 (by rw [hnL]; decide) rfl ?_
  refine sx_sub [0, 1, 2, 3, 4, 5] rfl ?_
  exact lp_Mo_yearCost M hT hr y o b hy ho hb C Rr hnL _ 0 (Nat.lt_succ_self _) (Nat.zero_le _)
def cst (M : sx_M0) (y o b : Nat) : Int := M 69 (32 * y + o) + ncS M o b (M 1 1).toNat + M 70 (32 * (y + 1) + o)
def rsP (M : sx_M0) (y b : Nat) : Prop := (0 ≤ M 70 (32 * y + b) ∧ M 70 (32 * y + b) ≤ 1000000000000) ∧ (∀ o, o < 32 → M 70 (32 * y + b) ≤ cst M y o b) ∧ (M 70 (32 * y + b) = 1000000000000 ∨ ∃ o, o < 32 ∧ M 70 (32 * y + b) = cst M y o b)
def yaI (M0 M : sx_M0) (k : Nat) : Prop := (∀ a, a ≠ 65 → a ≠ 66 → a ≠ 68 → a ≠ 69 → M a = M0 a) ∧ (∀ y o, y < k → o < 32 → sdP M0 (akS M0 (2 ^ (M0 1 0).toNat - 1) y) o (M 69 (32 * y + o)))
def roM (M0 M : sx_M0) (n e : Nat) : Prop := (∀ a, a ≠ 70 → M a = M0 a) ∧ (∀ b, b < 32 → M 70 (32 * n + b) = 0) ∧ (∀ y b, e ≤ y → y < n → b < 32 → rsP M y b)
def roB2 (M0 M : sx_M0) (n m b : Nat) : Prop := roM M0 M n (m + 1) ∧ (∀ b', b' < b → rsP M m b')
theorem cst_up {M : sx_M0} {k y o b : Nat} {x : Int} (h : k ≠ 32 * (y + 1) + o) : cst (sx_up M 70 k x) y o b = cst M y o b := by
  unfold cst
  rw [sx_up_ne (a := 69) (by decide), sx_up_ne (a := 1) (by decide), sx_up_slot (by omega), nc_congr (sx_up_ne (by decide))]
theorem rs_up {M : sx_M0} {k y b : Nat} {x : Int} (h : k < 32 * (y + 1)) (h2 : k ≠ 32 * y + b) (hr : rsP M y b) : rsP (sx_up M 70 k x) y b := by
  unfold rsP at hr ⊢
  rw [sx_up_slot (by omega)]
  refine ⟨hr.1, fun o ho => by rw [cst_up (by omega)]; exact hr.2.1 o ho, ?_⟩
  rcases hr.2.2 with y | ⟨o, y1, y2⟩
  · exact Or.inl y
  · exact Or.inr ⟨o, y1, by rw [cst_up (by omega)]; exact y2⟩
def mnR (c : Nat → Int) (k : Nat) (v : Int) : Prop := v ≤ 1000000000000 ∧ (∀ o, o < k → v ≤ c o) ∧ (v = 1000000000000 ∨ ∃ o, o < k ∧ v = c o)
theorem mr_no {c : Nat → Int} {k : Nat} {v : Int} (hk : v ≤ c k) (h : mnR c k v) : mnR c (k + 1) v := by
  refine ⟨h.1, fun o ho => ?_, ?_⟩
  · by_cases q : o = k
    · rw [q]; exact hk
    · exact h.2.1 o (by omega)
  · rcases h.2.2 with y | ⟨s, y1, y2⟩
    · exact Or.inl y
    · exact Or.inr ⟨s, by omega, y2⟩
theorem mr_yes {c : Nat → Int} {k : Nat} {v : Int} (hk : c k < v) (h : mnR c k v) : mnR c (k + 1) (c k) := by
  refine ⟨by have := h.1; omega, fun o ho => ?_, Or.inr ⟨k, Nat.lt_succ_self k, rfl⟩⟩
  by_cases q : o = k
  · rw [q]; exact Int.le_refl _
  · have := h.2.1 o (by omega)
    omega
theorem rb_step {M0 M : sx_M0} {n m b : Nat} {v : Int} (hm : m < n) (hb : b < 32) (hv : 0 ≤ v) (hmn : mnR (fun o => cst M m o b) 32 v) (h : roB2 M0 M n m b) : roB2 M0 (sx_up M 70 (32 * m + b) v) n m (b + 1) := by
  refine ⟨⟨fun a ha => by rw [sx_up_ne ha]; exact h.1.1 a ha, fun b' hb' => by rw [sx_up_slot (by omega)]; exact h.1.2.1 b' hb', fun y b' q1 q2 q3 => rs_up (by omega) (by omega) (h.1.2.2 y b' q1 q2 q3)⟩, fun b' hb' => ?_⟩
  by_cases q : b' = b
  · subst q
    unfold rsP
    rw [sx_up_at]
    refine ⟨⟨hv, hmn.1⟩, fun o ho => by rw [cst_up (by omega)]; exact hmn.2.1 o ho, ?_⟩
    rcases hmn.2.2 with y | ⟨o, y1, y2⟩
    · exact Or.inl y
    · exact Or.inr ⟨o, y1, by rw [cst_up (by omega)]; exact y2⟩
  · exact rs_up (by omega) (by omega) (h.2 b' (by omega))
theorem ro_bd {M0 M : sx_M0} {n e y o : Nat} (h : roM M0 M n e) (h1 : e ≤ y) (h2 : y ≤ n) (ho : o < 32) : 0 ≤ M 70 (32 * y + o) ∧ M 70 (32 * y + o) ≤ 1000000000000 := by
  by_cases q : y = n
  · rw [q, h.2.1 o ho]; decide
  · exact (h.2.2 y o h1 (by omega) ho).1
def fl2 (M : sx_M0) (y n : Nat) : sx_M0 := fun a b => if a = 70 ∧ 32 * y ≤ b ∧ b < 32 * y + n then 0 else M a b
theorem fl2_0 {M : sx_M0} {y : Nat} : fl2 M y 0 = M := by
  funext a b
  unfold fl2
  rw [if_neg (by omega)]
theorem fl2_ne {M : sx_M0} {y n a : Nat} (h : a ≠ 70) : fl2 M y n a = M a := by
  funext b
  unfold fl2
  rw [if_neg (by omega)]
theorem fl2_up {M : sx_M0} {y n : Nat} : sx_up (fl2 M y n) 70 (32 * y + n) 0 = fl2 M y (n + 1) := by
  funext a b
  unfold sx_up fl2
  by_cases h : a = 70 ∧ b = 32 * y + n
  · rw [if_pos h, if_pos (by omega)]
  · rw [if_neg h]
    by_cases h2 : a = 70 ∧ 32 * y ≤ b ∧ b < 32 * y + n
    · rw [if_pos h2, if_pos (by omega)]
    · rw [if_neg h2, if_neg (by omega)]
theorem fl2_at {M : sx_M0} {y n s : Nat} (h : s < n) : fl2 M y n 70 (32 * y + s) = 0 := by
  unfold fl2
  rw [if_pos (by omega)]
/-- o is the first set that is cheapest behind b in year y -/
def soP (M : sx_M0) (y b o : Nat) : Prop := o < 32 ∧ cst M y o b = M 70 (32 * y + b) ∧ ∀ o', o' < o → cst M y o' b ≠ M 70 (32 * y + b)
def hdM (M0 M : sx_M0) (n y b : Nat) : Prop := (∀ a, a ≠ 53 → a ≠ 64 → M a = M0 a) ∧ (∀ j, j ≠ 17 → M 53 j = M0 53 j) ∧ M 53 17 = (n : Int) ∧ b < 32 ∧ M0 70 (32 * y + b) < 1000000000000 ∧ ∃ H : Nat → Nat, H 0 = 0 ∧ H y = b ∧ ∀ j, j < y → M 64 j = (H (j + 1) : Int) ∧ soP M0 j (H j) (H (j + 1))
def myP (M M' : sx_M0) (n : Nat) (x : Int) : Prop := ∃ M1, (∀ a, a ≠ 65 → a ≠ 66 → a ≠ 68 → a ≠ 69 → a ≠ 70 → M1 a = M a) ∧ (∀ y o, y < n → o < 32 → sdP M (akS M (2 ^ (M 1 0).toNat - 1) y) o (M1 69 (32 * y + o))) ∧ (∀ b, b < 32 → M1 70 (32 * n + b) = 0) ∧ (∀ y b, y < n → b < 32 → rsP M1 y b) ∧ ((1000000000000 ≤ M1 70 0 ∧ x = -1 ∧ M' = M1) ∨ (M1 70 0 < 1000000000000 ∧ x = M1 70 0 ∧ ∃ b, hdM M1 M' n n b))
theorem hm_step {M0 M : sx_M0} (hT : tw M0) {n y b o : Nat} (hy : y < 6) (hS : ∀ o, o < 32 → 0 ≤ M0 69 (32 * y + o)) (ho : soP M0 y b o) (h : hdM M0 M n y b) : hdM M0 (sx_up M 64 y (o : Int)) n (y + 1) o := by
  obtain ⟨f1, f2, f3, f4, f5, H, e0, e1, e2⟩ := h
  have g1 := hT.2.1
  have nb := nc_bd hT (o := o) (b := b) (n := (M0 1 1).toNat) (by omega)
  have s0 := hS o ho.1
  have ce := ho.2.1
  unfold cst at ce
  refine ⟨fun a p1 p2 => by rw [sx_up_ne p2]; exact f1 a p1 p2, fun j hj => by rw [sx_up_ne (by decide)]; exact f2 j hj, by rw [sx_up_ne (by decide)]; exact f3, ho.1, by omega, fun j => if j = y + 1 then o else H j, ?_, if_pos rfl, fun j hj => ?_⟩
  · show (if 0 = y + 1 then o else H 0) = 0
    rw [if_neg (by omega)]; exact e0
  · show sx_up M 64 y (o : Int) 64 j = ((if j + 1 = y + 1 then o else H (j + 1) : Nat) : Int) ∧ soP M0 j (if j = y + 1 then o else H j) (if j + 1 = y + 1 then o else H (j + 1))
    rw [if_neg (show ¬ j = y + 1 by omega)]
    by_cases e : j = y
    · subst e
      rw [if_pos rfl, sx_up_at, e1]
      exact ⟨rfl, ho⟩
    · rw [if_neg (by omega), sx_up_slot e]
      exact e2 j (by omega)
set_option maxRecDepth 100000 in
set_option maxHeartbeats 4000000 in
theorem lpA_years  (M0 : sx_M0) (hT : tw M0) (hr : rT M0) (n : Nat) (hn1 : 1 ≤ n) (hn6 : n ≤ 6) {E : sx_E} (C : sx_C SC g_tbl "SiteChoiceModel" c_Mo_years E) {Po : Option sx_V → sx_G → sx_M0 → Prop} (hPo : ∀ (Mz : sx_M0) (q : Int), myP M0 Mz n q → Po (some (sx_I q)) GL Mz) (Rr : sx_Ret SC (some .int) (rmk 4 160) Po E) (hnL : sx_nL E = 9) (hk : ∀ M : sx_M0, yaI M0 M n → sx_X SC E (0, 0) GL M 31 [(0, sx_A (53)), (1, sx_I (((n : Nat) : Int)))] []) : ∀ (nF : Nat) (y : Nat) (M : sx_M0), n - y < nF → yaI M0 M y → y ≤ n → sx_X SC E (0, 0) GL M 15 [(2, sx_I (((y : Nat) : Int))), (0, sx_A (53)), (1, sx_I (((n : Nat) : Int)))] [] := by
  intro nF
  induction nF with
  | zero => intro y M h; omega
  | succ nF ih =>
    intro y M hn h h2
    have fr : ∀ a, a ≤ 62 → M a = M0 a := fun a ha => h.1 a (by omega) (by omega) (by omega) (by omega)
    have hTM : tw M := tw_fr (fun a ha => fr a (by omega)) hT
    have hrM : rT M := rT_fr fr hT hr
    have e1 : M 1 = M0 1 := fr 1 (by decide)
    have fr16 : ∀ a, a ≤ 16 → M a = M0 a := fun a ha => fr a (by omega)
    refine sx_iload_n C 0 d_Mo_years_15 rfl rfl ?_
    refine sx_iload_n C 2 d_Mo_years_16 rfl rfl ?_
    refine sx_icmp_ge C 31 ⟨by omega, by omega⟩ ⟨by omega, by omega⟩ d_Mo_years_17 (by decide) (fun c17 => ?_) (fun c17 => ?_)
    · refine sx_sub [1, 2] rfl ?_
      exact hk M (by rw [show n = y by omega]; exact h)
    · refine sx_aload_n C 1 d_Mo_years_20 rfl rfl ?_
      refine sx_iload_n C 0 d_Mo_years_21 rfl rfl ?_
      refine sx_callV (n := 71) (As := [sx_I (((y : Nat) : Int))]) (st := []) C (ct_Mo_reckon _ _ _ M hTM hrM y (by omega)) rfl (by decide) rfl (cv_Mo_179 E C _ (by rw [Rr.2.2]; decide)) (Nat.le_of_ble_eq_true rfl) d_Mo_years_22 (by rw [Rr.2.2]; decide) (by decide) rfl rfl rfl (fun r22 G22 M22 hpo _ => ?_)
      obtain ⟨ee1, rfl, f22, k22, s22⟩ := hpo
      rw [ee1]
      show sx_X SC E (0, 0) GL M22 25 [(2, sx_I (((y : Nat) : Int))), (0, sx_A (53)), (1, sx_I (((n : Nat) : Int)))] []
      refine sx_iinc (lv' := [(2, sx_I (((y + 1 : Nat) : Int))), (0, sx_A (53)), (1, sx_I (((n : Nat) : Int)))]) C 0 d_Mo_years_25 rfl (by rw [hnL]; decide) rfl ?_
      refine sx_goto C 15 d_Mo_years_28 (by decide) ?_
      refine sx_sub [0, 1, 2] rfl ?_
      exact ih (y + 1) M22 (by omega) ⟨fun a p1 p2 p3 p4 => (f22 a p1 p2 p3 p4).trans (h.1 a p1 p2 p3 p4), fun y2 o2 q1 q2 => by
      by_cases e : y2 = y
      · rw [e]
        have := s22 o2 q2
        rw [e1] at this
        exact sdP_congr hT fr16 (fun d hd => ak_congr fr16) this
      · rw [k22 _ (by omega)]; exact h.2 y2 o2 (by omega) q2⟩ (by omega)
set_option maxRecDepth 100000 in
set_option maxHeartbeats 4000000 in
theorem lpB_years  (M0 M : sx_M0) (n : Nat) (hn1 : 1 ≤ n) (hn6 : n ≤ 6) {E : sx_E} (C : sx_C SC g_tbl "SiteChoiceModel" c_Mo_years E) {Po : Option sx_V → sx_G → sx_M0 → Prop} (hPo : ∀ (Mz : sx_M0) (q : Int), myP M0 Mz n q → Po (some (sx_I q)) GL Mz) (Rr : sx_Ret SC (some .int) (rmk 4 160) Po E) (hnL : sx_nL E = 9) (hk : sx_X SC E (0, 0) GL (fl2 M n 32) 57 [(0, sx_A (53)), (1, sx_I (((n : Nat) : Int)))] []) : ∀ (nF : Nat) (s : Nat), 32 - s < nF → s ≤ 32 → sx_X SC E (0, 0) GL (fl2 M n s) 33 [(2, sx_I (((s : Nat) : Int))), (0, sx_A (53)), (1, sx_I (((n : Nat) : Int)))] [] := by
  intro nF
  induction nF with
  | zero => intro s h; omega
  | succ nF ih =>
    intro s hn h1
    refine sx_iload_n C 0 d_Mo_years_33 rfl rfl ?_
    refine sx_bipush C d_Mo_years_34 (by decide) ?_
    refine sx_icmp_ge C 57 ⟨by omega, by omega⟩ ⟨by omega, by omega⟩ d_Mo_years_36 (by decide) (fun c36 => ?_) (fun c36 => ?_)
    · refine sx_sub [1, 2] rfl ?_
      rw [show s = 32 by omega]
      exact hk
    · refine sx_aload_n C 1 d_Mo_years_39 rfl rfl ?_
      refine sx_getr C f_Mo_66 70 (by decide) rfl rfl d_Mo_years_40 ?_
      refine sx_bipush C d_Mo_years_43 (by decide) ?_
      refine sx_iload_n C 2 d_Mo_years_45 rfl rfl ?_
      refine sx_imul C d_Mo_years_46 ?_
      refine sx_iload_n C 0 d_Mo_years_47 rfl rfl ?_
      refine sx_iadd C d_Mo_years_48 ?_
      refine sx_lconst C 0 rfl d_Mo_years_49 ?_
      refine sx_lastore C (32 * n + s) (by decide) rfl rfl (by omega) (by omega) (by decide) d_Mo_years_50 ?_
      refine sx_iinc (lv' := [(2, sx_I (((s + 1 : Nat) : Int))), (0, sx_A (53)), (1, sx_I (((n : Nat) : Int)))]) C 0 d_Mo_years_51 rfl (by rw [hnL]; decide) rfl ?_
      refine sx_goto C 33 d_Mo_years_54 (by decide) ?_
      rw [fl2_up]
      refine sx_sub [0, 1, 2] rfl ?_
      exact ih (s + 1) (by omega) (by omega)
set_option maxRecDepth 100000 in
set_option maxHeartbeats 4000000 in
theorem lpC1_years  (n : Nat) (hn1 : 1 ≤ n) (hn6 : n ≤ 6) (M0 MA : sx_M0) (hT : tw MA) (hr : rT MA) (hS : ∀ y o, y < n → o < 32 → 0 ≤ MA 69 (32 * y + o) ∧ MA 69 (32 * y + o) ≤ 1000000000000) (m b : Nat) (hm : m < n) (hb : b < 32) (M : sx_M0) (h : roB2 MA M n m b) {E : sx_E} (C : sx_C SC g_tbl "SiteChoiceModel" c_Mo_years E) {Po : Option sx_V → sx_G → sx_M0 → Prop} (hPo : ∀ (Mz : sx_M0) (q : Int), myP M0 Mz n q → Po (some (sx_I q)) GL Mz) (Rr : sx_Ret SC (some .int) (rmk 4 160) Po E) (hnL : sx_nL E = 9) (hk : ∀ v : Int, 0 ≤ v → mnR (fun o => cst M m o b) 32 v → sx_X SC E (0, 0) GL M 136 [(4, sx_J v), (3, sx_I (((b : Nat) : Int))), (2, sx_I (((m : Nat) : Int))), (0, sx_A (53)), (1, sx_I (((n : Nat) : Int)))] []) : ∀ (nF : Nat) (o : Nat) (v : Int), 32 - o < nF → mnR (fun o => cst M m o b) o v → 0 ≤ v → o ≤ 32 → sx_X SC E (0, 0) GL M 81 [(6, sx_I (((o : Nat) : Int))), (4, sx_J (v)), (3, sx_I (((b : Nat) : Int))), (2, sx_I (((m : Nat) : Int))), (0, sx_A (53)), (1, sx_I (((n : Nat) : Int)))] [] := by
  intro nF
  induction nF with
  | zero => intro o v h; omega
  | succ nF ih =>
    intro o v hn h1 h2 h3
    have g1 := hT.2.1
    have frC : ∀ a, a ≠ 70 → M a = MA a := h.1.1
    have hTM : tw M := tw_fr (fun a ha => frC a (by omega)) hT
    have hrM : rT M := rT_fr (fun a ha => frC a (by omega)) hT hr
    have e1 : M 1 = MA 1 := frC 1 (by decide)
    have g1M : 0 ≤ M 1 1 ∧ M 1 1 ≤ 5 := by rw [e1]; exact hT.2.1
    have hv9 := h1.1
    refine sx_iload C 0 d_Mo_years_81 rfl ?_
    refine sx_bipush C d_Mo_years_83 (by decide) ?_
    refine sx_icmp_ge C 136 ⟨by omega, by omega⟩ ⟨by omega, by omega⟩ d_Mo_years_85 (by decide) (fun c85 => ?_) (fun c85 => ?_)
    · refine sx_sub [1, 2, 3, 4, 5] rfl ?_
      exact hk v h2 (by rw [show o = 32 by omega] at h1; exact h1)
    · have nb := nc_bd hTM (o := o) (b := b) (n := (M 1 1).toNat) (by rw [e1]; omega)
      have sb2 := hS m o hm (by omega)
      have e69 : M 69 = MA 69 := frC 69 (by decide)
      rw [← e69] at sb2
      have rb := ro_bd h.1 (Nat.le_refl (m + 1)) (by omega) (show o < 32 by omega)
      have cb : 0 ≤ cst M m o b ∧ cst M m o b ≤ 3000000000000 := by unfold cst; omega
      refine sx_aload_n C 4 d_Mo_years_88 rfl rfl ?_
      refine sx_iload_n C 3 d_Mo_years_89 rfl rfl ?_
      refine sx_iload C 0 d_Mo_years_90 rfl ?_
      refine sx_iload_n C 2 d_Mo_years_92 rfl rfl ?_
      refine sx_callV (n := 71) (As := [sx_I (((m : Nat) : Int)), sx_I (((o : Nat) : Int)), sx_I (((b : Nat) : Int))]) (st := []) C (ct_Mo_yearCost _ _ _ M hTM hrM m o b (by omega) (by omega) (by omega)) rfl (by decide) rfl (cv_Mo_183 E C _ (by rw [Rr.2.2]; decide)) (Nat.le_of_ble_eq_true rfl) d_Mo_years_93 (by rw [Rr.2.2]; decide) (by decide) rfl rfl rfl (fun r93 G93 M93 hpo _ => ?_)
      obtain ⟨ee1, ee2, rfl⟩ := hpo
      rw [ee1, ee2]
      show sx_X SC E (0, 0) GL M 96 [(6, sx_I (((o : Nat) : Int))), (4, sx_J (v)), (3, sx_I (((b : Nat) : Int))), (2, sx_I (((m : Nat) : Int))), (0, sx_A (53)), (1, sx_I (((n : Nat) : Int)))] [sx_J (M 69 (32 * m + o) + ncS M o b (M 1 1).toNat)]
      refine sx_aload_n C 4 d_Mo_years_96 rfl rfl ?_
      refine sx_getr C f_Mo_66 70 (by decide) rfl rfl d_Mo_years_97 ?_
      refine sx_bipush C d_Mo_years_100 (by decide) ?_
      refine sx_iload_n C 3 d_Mo_years_102 rfl rfl ?_
      refine sx_iconst C d_Mo_years_103 ?_
      refine sx_iadd C d_Mo_years_104 ?_
      refine sx_imul C d_Mo_years_105 ?_
      refine sx_iload C 0 d_Mo_years_106 rfl ?_
      refine sx_iadd C d_Mo_years_108 ?_
      refine sx_laload C (32 * (m + 1) + o) (by decide) rfl rfl (by omega) (by omega) (by decide) d_Mo_years_109 ?_
      refine sx_ladd C d_Mo_years_110 ?_
      rw [show (M 69 (32 * m + o) + ncS M o b (M 1 1).toNat) + (M 70 (32 * (m + 1) + o)) = cst M m o b from rfl]
      refine sx_lstore (lv' := [(7, sx_J (cst M m o b)), (6, sx_I (((o : Nat) : Int))), (4, sx_J (v)), (3, sx_I (((b : Nat) : Int))), (2, sx_I (((m : Nat) : Int))), (0, sx_A (53)), (1, sx_I (((n : Nat) : Int)))]) C d_Mo_years_111 (by rw [hnL]; decide) rfl ?_
      refine sx_lload C 0 d_Mo_years_113 rfl ?_
      refine sx_lload C 2 d_Mo_years_115 rfl ?_
      refine sx_lcmp_ge C 126 ⟨by omega, by omega⟩ ⟨by omega, by omega⟩ d_Mo_years_117 d_Mo_years_118 (by decide) (fun c118 => ?_) (fun c118 => ?_)
      · refine sx_lload C 2 d_Mo_years_126 rfl ?_
        refine sx_lstore (lv' := [(4, sx_J (v)), (7, sx_J (cst M m o b)), (6, sx_I (((o : Nat) : Int))), (3, sx_I (((b : Nat) : Int))), (2, sx_I (((m : Nat) : Int))), (0, sx_A (53)), (1, sx_I (((n : Nat) : Int)))]) C d_Mo_years_128 (by rw [hnL]; decide) rfl ?_
        refine sx_iinc (lv' := [(6, sx_I (((o + 1 : Nat) : Int))), (4, sx_J (v)), (7, sx_J (cst M m o b)), (3, sx_I (((b : Nat) : Int))), (2, sx_I (((m : Nat) : Int))), (0, sx_A (53)), (1, sx_I (((n : Nat) : Int)))]) C 2 d_Mo_years_130 rfl (by rw [hnL]; decide) rfl ?_
        refine sx_goto C 81 d_Mo_years_133 (by decide) ?_
        refine sx_sub [0, 1, 3, 4, 5, 6] rfl ?_
        exact ih (o + 1) v (by omega) (mr_no (by show v ≤ cst M m o b; omega) h1) h2 (by omega)
      · refine sx_lload C 0 d_Mo_years_121 rfl ?_
        refine sx_goto C 128 d_Mo_years_123 (by decide) ?_
        refine sx_lstore (lv' := [(4, sx_J (cst M m o b)), (7, sx_J (cst M m o b)), (6, sx_I (((o : Nat) : Int))), (3, sx_I (((b : Nat) : Int))), (2, sx_I (((m : Nat) : Int))), (0, sx_A (53)), (1, sx_I (((n : Nat) : Int)))]) C d_Mo_years_128 (by rw [hnL]; decide) rfl ?_
        refine sx_iinc (lv' := [(6, sx_I (((o + 1 : Nat) : Int))), (4, sx_J (cst M m o b)), (7, sx_J (cst M m o b)), (3, sx_I (((b : Nat) : Int))), (2, sx_I (((m : Nat) : Int))), (0, sx_A (53)), (1, sx_I (((n : Nat) : Int)))]) C 2 d_Mo_years_130 rfl (by rw [hnL]; decide) rfl ?_
        refine sx_goto C 81 d_Mo_years_133 (by decide) ?_
        refine sx_sub [0, 1, 3, 4, 5, 6] rfl ?_
        exact ih (o + 1) _ (by omega) (mr_yes (c := (fun o => cst M m o b)) (by show cst M m o b < v; omega) h1) (by omega) (by omega)
set_option maxRecDepth 100000 in
set_option maxHeartbeats 4000000 in
theorem lpC2_years  (n : Nat) (hn1 : 1 ≤ n) (hn6 : n ≤ 6) (M0 MA : sx_M0) (hT : tw MA) (hr : rT MA) (hS : ∀ y o, y < n → o < 32 → 0 ≤ MA 69 (32 * y + o) ∧ MA 69 (32 * y + o) ≤ 1000000000000) (m : Nat) (hm : m < n) {E : sx_E} (C : sx_C SC g_tbl "SiteChoiceModel" c_Mo_years E) {Po : Option sx_V → sx_G → sx_M0 → Prop} (hPo : ∀ (Mz : sx_M0) (q : Int), myP M0 Mz n q → Po (some (sx_I q)) GL Mz) (Rr : sx_Ret SC (some .int) (rmk 4 160) Po E) (hnL : sx_nL E = 9) (hk : ∀ M : sx_M0, roM MA M n m → sx_X SC E (0, 0) GL M 155 [(2, sx_I (((m : Nat) : Int))), (0, sx_A (53)), (1, sx_I (((n : Nat) : Int)))] []) : ∀ (nF : Nat) (b : Nat) (M : sx_M0), 32 - b < nF → roB2 MA M n m b → b ≤ 32 → sx_X SC E (0, 0) GL M 67 [(3, sx_I (((b : Nat) : Int))), (2, sx_I (((m : Nat) : Int))), (0, sx_A (53)), (1, sx_I (((n : Nat) : Int)))] [] := by
  intro nF
  induction nF with
  | zero => intro b M h; omega
  | succ nF ih =>
    intro b M hn h h2
    refine sx_iload_n C 0 d_Mo_years_67 rfl rfl ?_
    refine sx_bipush C d_Mo_years_68 (by decide) ?_
    refine sx_icmp_ge C 155 ⟨by omega, by omega⟩ ⟨by omega, by omega⟩ d_Mo_years_70 (by decide) (fun c70 => ?_) (fun c70 => ?_)
    · refine sx_sub [1, 2, 3] rfl ?_
      exact hk M ⟨h.1.1, h.1.2.1, fun y b2 q1 q2 q3 => by rcases Nat.lt_or_ge m y with q | q; exact h.1.2.2 y b2 q q2 q3; rw [show y = m by omega]; exact h.2 b2 (by omega)⟩
    · refine sx_ldc2 (v := (1000000000000)) C (1000000000000) (tb_ 758 (by decide +kernel) rfl) (by decide) d_Mo_years_73 ?_
      refine sx_lstore (lv' := [(4, sx_J (1000000000000)), (3, sx_I (((b : Nat) : Int))), (2, sx_I (((m : Nat) : Int))), (0, sx_A (53)), (1, sx_I (((n : Nat) : Int)))]) C d_Mo_years_76 (by rw [hnL]; decide) rfl ?_
      refine sx_iconst C d_Mo_years_78 ?_
      refine sx_istore (lv' := [(6, sx_I (0)), (4, sx_J (1000000000000)), (3, sx_I (((b : Nat) : Int))), (2, sx_I (((m : Nat) : Int))), (0, sx_A (53)), (1, sx_I (((n : Nat) : Int)))]) C d_Mo_years_79 (by rw [hnL]; decide) rfl ?_
      refine sx_sub [0, 1, 2, 3, 4, 5] rfl ?_
      refine lpC1_years n hn1 hn6 M0 MA hT hr hS m b hm (by omega) M h C hPo Rr hnL (fun v hv2 hx2 => ?_) _ 0 1000000000000 (Nat.lt_succ_self _) ⟨Int.le_refl _, fun o ho => absurd ho (Nat.not_lt_zero o), Or.inl rfl⟩ (by decide) (by decide)
      refine sx_aload_n C 3 d_Mo_years_136 rfl rfl ?_
      refine sx_getr C f_Mo_66 70 (by decide) rfl rfl d_Mo_years_137 ?_
      refine sx_bipush C d_Mo_years_140 (by decide) ?_
      refine sx_iload_n C 2 d_Mo_years_142 rfl rfl ?_
      refine sx_imul C d_Mo_years_143 ?_
      refine sx_iload_n C 1 d_Mo_years_144 rfl rfl ?_
      refine sx_iadd C d_Mo_years_145 ?_
      refine sx_lload C 0 d_Mo_years_146 rfl ?_
      refine sx_lastore C (32 * m + b) (by decide) rfl rfl (by omega) (by omega) (by decide) d_Mo_years_148 ?_
      refine sx_iinc (lv' := [(3, sx_I (((b + 1 : Nat) : Int))), (4, sx_J (v)), (2, sx_I (((m : Nat) : Int))), (0, sx_A (53)), (1, sx_I (((n : Nat) : Int)))]) C 1 d_Mo_years_149 rfl (by rw [hnL]; decide) rfl ?_
      refine sx_goto C 67 d_Mo_years_152 (by decide) ?_
      refine sx_sub [0, 2, 3, 4] rfl ?_
      exact ih (b + 1) _ (by omega) (rb_step hm (by omega) hv2 hx2 h) (by omega)
set_option maxRecDepth 100000 in
set_option maxHeartbeats 4000000 in
theorem lpC_years (n : Nat) (hn1 : 1 ≤ n) (hn6 : n ≤ 6) (M0 MA : sx_M0) (hT : tw MA) (hr : rT MA) (hS : ∀ y o, y < n → o < 32 → 0 ≤ MA 69 (32 * y + o) ∧ MA 69 (32 * y + o) ≤ 1000000000000) {E : sx_E} (C : sx_C SC g_tbl "SiteChoiceModel" c_Mo_years E) {Po : Option sx_V → sx_G → sx_M0 → Prop} (hPo : ∀ (Mz : sx_M0) (q : Int), myP M0 Mz n q → Po (some (sx_I q)) GL Mz) (Rr : sx_Ret SC (some .int) (rmk 4 160) Po E) (hnL : sx_nL E = 9) (hk : ∀ M : sx_M0, roM MA M n 0 → sx_X SC E (0, 0) GL M 161 [(0, sx_A (53)), (1, sx_I (((n : Nat) : Int)))] []) : ∀ (e : Nat), e ≤ n → ∀ (M : sx_M0), roM MA M n e → sx_X SC E (0, 0) GL M 61 [(2, sx_I (((e : Nat) : Int) - 1)), (0, sx_A (53)), (1, sx_I (((n : Nat) : Int)))] [] := by
  intro e
  induction e with
  | zero =>
    intro _ M h
    refine sx_iload_n C 0 d_Mo_years_61 rfl rfl ?_
    refine sx_if_lt C 161 ⟨by omega, by omega⟩ d_Mo_years_62 (by decide) (fun c62 => ?_) (fun c62 => ?_)
    · refine sx_sub [1, 2] rfl ?_
      exact hk M h
    · exfalso; omega
  | succ m ih =>
    intro hm M h
    rw [show ((m + 1 : Nat) : Int) - 1 = ((m : Nat) : Int) by omega]
    refine sx_iload_n C 0 d_Mo_years_61 rfl rfl ?_
    refine sx_if_lt C 161 ⟨by omega, by omega⟩ d_Mo_years_62 (by decide) (fun c62 => ?_) (fun c62 => ?_)
    · exfalso; omega
    · refine sx_iconst C d_Mo_years_65 ?_
      refine sx_istore_n (lv' := [(3, sx_I (0)), (2, sx_I (((m : Nat) : Int))), (0, sx_A (53)), (1, sx_I (((n : Nat) : Int)))]) C d_Mo_years_66 rfl (by rw [hnL]; decide) rfl ?_
      refine sx_sub [0, 1, 2, 3] rfl ?_
      refine lpC2_years n hn1 hn6 M0 MA hT hr hS m (by omega) C hPo Rr hnL (fun M2 hx2 => ?_) _ 0 M (Nat.lt_succ_self _) ⟨h, fun b2 q => absurd q (Nat.not_lt_zero b2)⟩ (by decide)
      refine sx_iinc (lv' := [(2, sx_I (((m : Nat) : Int) + (-1))), (0, sx_A (53)), (1, sx_I (((n : Nat) : Int)))]) C 0 d_Mo_years_155 rfl (by rw [hnL]; decide) rfl ?_
      refine sx_goto C 61 d_Mo_years_158 (by decide) ?_
      rw [show ((m : Nat) : Int) + (-1) = ((m : Nat) : Int) - 1 by omega]
      refine sx_sub [0, 1, 2] rfl ?_
      exact ih (by omega) M2 hx2
set_option maxRecDepth 100000 in
set_option maxHeartbeats 4000000 in
theorem lpD1_years  (n : Nat) (hn1 : 1 ≤ n) (hn6 : n ≤ 6) (M0 MB : sx_M0) (hT : tw MB) (hr : rT MB) (hS : ∀ y o, y < n → o < 32 → 0 ≤ MB 69 (32 * y + o) ∧ MB 69 (32 * y + o) ≤ 1000000000000) (hz0 : ∀ b, b < 32 → MB 70 (32 * n + b) = 0) (hRP : ∀ y b, y < n → b < 32 → rsP MB y b) (y b : Nat) (hyn : y < n) (M : sx_M0) (h : hdM MB M n y b) {E : sx_E} (C : sx_C SC g_tbl "SiteChoiceModel" c_Mo_years E) {Po : Option sx_V → sx_G → sx_M0 → Prop} (hPo : ∀ (Mz : sx_M0) (q : Int), myP M0 Mz n q → Po (some (sx_I q)) GL Mz) (Rr : sx_Ret SC (some .int) (rmk 4 160) Po E) (hnL : sx_nL E = 9) (hk : ∀ o, soP MB y b o → sx_X SC E (0, 0) GL M 237 [(4, sx_I (((o : Nat) : Int))), (3, sx_I (((y : Nat) : Int))), (2, sx_I (((b : Nat) : Int))), (0, sx_A (53)), (1, sx_I (((n : Nat) : Int)))] []) : ∀ (nF : Nat) (o : Nat), 32 - o < nF → (∀ o2, o2 < o → cst MB y o2 b ≠ MB 70 (32 * y + b)) → o ≤ 32 → sx_X SC E (0, 0) GL M 193 [(4, sx_I (((o : Nat) : Int))), (3, sx_I (((y : Nat) : Int))), (2, sx_I (((b : Nat) : Int))), (0, sx_A (53)), (1, sx_I (((n : Nat) : Int)))] [] := by
  intro nF
  induction nF with
  | zero => intro o h; omega
  | succ nF ih =>
    intro o hn h1 h2
    have g1 := hT.2.1
    have frD : ∀ a, a ≠ 53 → a ≠ 64 → M a = MB a := h.1
    have hTM : tw M := tw_fr (fun a ha => frD a (by omega) (by omega)) hT
    have hrM : rT M := rT_fc (fun a ha hb => frD a hb (by omega)) (h.2.1 0 (by decide)) (h.2.1 1 (by decide)) (h.2.1 11 (by decide)) hT hr
    have e1 : M 1 = MB 1 := frD 1 (by decide) (by decide)
    have e69 : M 69 = MB 69 := frD 69 (by decide) (by decide)
    have e70 : M 70 = MB 70 := frD 70 (by decide) (by decide)
    have e13 : M 13 = MB 13 := frD 13 (by decide) (by decide)
    have hb32 := h.2.2.2.1
    have hex : ∃ o, o < 32 ∧ cst MB y o b = MB 70 (32 * y + b) := by
      rcases (hRP y b hyn hb32).2.2 with q | ⟨o3, q1, q2⟩
      · have := h.2.2.2.2.1; omega
      · exact ⟨o3, q1, q2.symm⟩
    have ho32 : o < 32 := by obtain ⟨w1, w2, w3⟩ := hex; rcases Nat.lt_or_ge w1 o with q | q; (exact absurd w3 (h1 w1 q)); omega
    have nb := nc_bd hT (o := o) (b := b) (n := (MB 1 1).toNat) (by omega)
    have sb2 := hS y o hyn ho32
    have rb : 0 ≤ MB 70 (32 * (y + 1) + o) ∧ MB 70 (32 * (y + 1) + o) ≤ 1000000000000 := by by_cases q : y + 1 = n; (rw [q, hz0 o ho32]; decide); exact (hRP (y + 1) o (by omega) ho32).1
    have cb : 0 ≤ cst MB y o b ∧ cst MB y o b ≤ 3000000000000 := by unfold cst; omega
    have rb2 := (hRP y b hyn hb32).1
    refine sx_aload_n C 3 d_Mo_years_193 rfl rfl ?_
    refine sx_iload_n C 1 d_Mo_years_194 rfl rfl ?_
    refine sx_iload C 0 d_Mo_years_195 rfl ?_
    refine sx_iload_n C 2 d_Mo_years_197 rfl rfl ?_
    refine sx_callV (n := 71) (As := [sx_I (((y : Nat) : Int)), sx_I (((o : Nat) : Int)), sx_I (((b : Nat) : Int))]) (st := []) C (ct_Mo_yearCost _ _ _ M hTM hrM y o b (by omega) (by omega) (by omega)) rfl (by decide) rfl (cv_Mo_183 E C _ (by rw [Rr.2.2]; decide)) (Nat.le_of_ble_eq_true rfl) d_Mo_years_198 (by rw [Rr.2.2]; decide) (by decide) rfl rfl rfl (fun r198 G198 M198 hpo _ => ?_)
    obtain ⟨ee1, ee2, rfl⟩ := hpo
    rw [ee1, ee2]
    show sx_X SC E (0, 0) GL M 201 [(4, sx_I (((o : Nat) : Int))), (3, sx_I (((y : Nat) : Int))), (2, sx_I (((b : Nat) : Int))), (0, sx_A (53)), (1, sx_I (((n : Nat) : Int)))] [sx_J (M 69 (32 * y + o) + ncS M o b (M 1 1).toNat)]
    refine sx_aload_n C 3 d_Mo_years_201 rfl rfl ?_
    refine sx_getr C f_Mo_66 70 (by decide) rfl rfl d_Mo_years_202 ?_
    refine sx_bipush C d_Mo_years_205 (by decide) ?_
    refine sx_iload_n C 1 d_Mo_years_207 rfl rfl ?_
    refine sx_iconst C d_Mo_years_208 ?_
    refine sx_iadd C d_Mo_years_209 ?_
    refine sx_imul C d_Mo_years_210 ?_
    refine sx_iload C 0 d_Mo_years_211 rfl ?_
    refine sx_iadd C d_Mo_years_213 ?_
    refine sx_laload C (32 * (y + 1) + o) (by decide) rfl rfl (by omega) (by omega) (by decide) d_Mo_years_214 ?_
    refine sx_ladd C d_Mo_years_215 ?_
    rw [show (M 69 (32 * y + o) + ncS M o b (M 1 1).toNat) + (M 70 (32 * (y + 1) + o)) = cst MB y o b from by unfold cst; rw [e69, e70, e1, nc_congr e13]]
    refine sx_aload_n C 3 d_Mo_years_216 rfl rfl ?_
    refine sx_getr C f_Mo_66 70 (by decide) rfl rfl d_Mo_years_217 ?_
    refine sx_bipush C d_Mo_years_220 (by decide) ?_
    refine sx_iload_n C 1 d_Mo_years_222 rfl rfl ?_
    refine sx_imul C d_Mo_years_223 ?_
    refine sx_iload_n C 2 d_Mo_years_224 rfl rfl ?_
    refine sx_iadd C d_Mo_years_225 ?_
    refine sx_laload C (32 * y + b) (by decide) rfl rfl (by omega) (by omega) (by decide) d_Mo_years_226 ?_
    rw [e70]
    refine sx_lcmp_eq C 237 ⟨by omega, by omega⟩ ⟨by omega, by omega⟩ d_Mo_years_227 d_Mo_years_228 (by decide) (fun c228 => ?_) (fun c228 => ?_)
    · refine sx_sub [0, 1, 2, 3, 4] rfl ?_
      exact hk o ⟨ho32, by omega, h1⟩
    · refine sx_iinc (lv' := [(4, sx_I (((o + 1 : Nat) : Int))), (3, sx_I (((y : Nat) : Int))), (2, sx_I (((b : Nat) : Int))), (0, sx_A (53)), (1, sx_I (((n : Nat) : Int)))]) C 0 d_Mo_years_231 rfl (by rw [hnL]; decide) rfl ?_
      refine sx_goto C 193 d_Mo_years_234 (by decide) ?_
      refine sx_sub [0, 1, 2, 3, 4] rfl ?_
      exact ih (o + 1) (by omega) (fun o2 q => by rcases Nat.lt_or_ge o2 o with q2 | q2; exact h1 o2 q2; rw [show o2 = o by omega]; omega) (by omega)
set_option maxRecDepth 100000 in
set_option maxHeartbeats 4000000 in
theorem lpD_years  (n : Nat) (hn1 : 1 ≤ n) (hn6 : n ≤ 6) (M0 MB : sx_M0) (hT : tw MB) (hr : rT MB) (hS : ∀ y o, y < n → o < 32 → 0 ≤ MB 69 (32 * y + o) ∧ MB 69 (32 * y + o) ≤ 1000000000000) (hz0 : ∀ b, b < 32 → MB 70 (32 * n + b) = 0) (hRP : ∀ y b, y < n → b < 32 → rsP MB y b) (hfin : ∀ M b, hdM MB M n n b → myP M0 M n (MB 70 0)) {E : sx_E} (C : sx_C SC g_tbl "SiteChoiceModel" c_Mo_years E) {Po : Option sx_V → sx_G → sx_M0 → Prop} (hPo : ∀ (Mz : sx_M0) (q : Int), myP M0 Mz n q → Po (some (sx_I q)) GL Mz) (Rr : sx_Ret SC (some .int) (rmk 4 160) Po E) (hnL : sx_nL E = 9) : ∀ (nF : Nat) (y : Nat) (b : Nat) (M : sx_M0), n - y < nF → hdM MB M n y b → y ≤ n → sx_X SC E (0, 0) GL M 185 [(3, sx_I (((y : Nat) : Int))), (2, sx_I (((b : Nat) : Int))), (0, sx_A (53)), (1, sx_I (((n : Nat) : Int)))] [] := by
  intro nF
  induction nF with
  | zero => intro y b M h; omega
  | succ nF ih =>
    intro y b M hn h h2
    refine sx_iload_n C 0 d_Mo_years_185 rfl rfl ?_
    refine sx_iload_n C 3 d_Mo_years_186 rfl rfl ?_
    refine sx_icmp_ge C 254 ⟨by omega, by omega⟩ ⟨by omega, by omega⟩ d_Mo_years_187 (by decide) (fun c187 => ?_) (fun c187 => ?_)
    · refine sx_aload_n C 2 d_Mo_years_254 rfl rfl ?_
      refine sx_getr C f_Mo_66 70 (by decide) rfl rfl d_Mo_years_255 ?_
      refine sx_iconst C d_Mo_years_258 ?_
      refine sx_laload C 0 (by decide) rfl rfl rfl (by decide) (by decide) d_Mo_years_259 ?_
      refine sx_l2i C d_Mo_years_260 ?_
      refine sx_ireturn C Rr rfl d_Mo_years_261 ?_
      refine hPo _ _ ?_
      rw [show y = n by omega] at h
      rw [h.1 70 (by decide) (by decide)]
      exact hfin M b h
    · refine sx_iconst C d_Mo_years_190 ?_
      refine sx_istore (lv' := [(4, sx_I (0)), (3, sx_I (((y : Nat) : Int))), (2, sx_I (((b : Nat) : Int))), (0, sx_A (53)), (1, sx_I (((n : Nat) : Int)))]) C d_Mo_years_191 (by rw [hnL]; decide) rfl ?_
      refine sx_sub [0, 1, 2, 3, 4] rfl ?_
      refine lpD1_years n hn1 hn6 M0 MB hT hr hS hz0 hRP y b (by omega) M h C hPo Rr hnL (fun o hx2 => ?_) _ 0 (Nat.lt_succ_self _) (fun o2 q => absurd q (Nat.not_lt_zero o2)) (by decide)
      refine sx_aload_n C 3 d_Mo_years_237 rfl rfl ?_
      refine sx_getr C f_Mo_48 64 (by decide) rfl rfl d_Mo_years_238 ?_
      refine sx_iload_n C 1 d_Mo_years_241 rfl rfl ?_
      refine sx_iload C 0 d_Mo_years_242 rfl ?_
      refine sx_iastore C y (by decide) rfl rfl rfl (by omega) (by decide) d_Mo_years_244 ?_
      refine sx_iload C 0 d_Mo_years_245 rfl ?_
      refine sx_istore_n (lv' := [(2, sx_I (((o : Nat) : Int))), (4, sx_I (((o : Nat) : Int))), (3, sx_I (((y : Nat) : Int))), (0, sx_A (53)), (1, sx_I (((n : Nat) : Int)))]) C d_Mo_years_247 rfl (by rw [hnL]; decide) rfl ?_
      refine sx_iinc (lv' := [(3, sx_I (((y + 1 : Nat) : Int))), (2, sx_I (((o : Nat) : Int))), (4, sx_I (((o : Nat) : Int))), (0, sx_A (53)), (1, sx_I (((n : Nat) : Int)))]) C 2 d_Mo_years_248 rfl (by rw [hnL]; decide) rfl ?_
      refine sx_goto C 185 d_Mo_years_251 (by decide) ?_
      refine sx_sub [0, 1, 3, 4] rfl ?_
      exact ih (y + 1) o _ (by omega) (hm_step hT (by omega) (fun o3 q => (hS y o3 (by omega) q).1) hx2 h) (by omega)
set_option maxRecDepth 100000 in
set_option maxHeartbeats 4000000 in
theorem s13_years (M : sx_M0) (hT : tw M) (hr : rT M) (n : Nat) (hn1 : 1 ≤ n) (hn6 : n ≤ 6) {E : sx_E} (C : sx_C SC g_tbl "SiteChoiceModel" c_Mo_years E) {Po : Option sx_V → sx_G → sx_M0 → Prop} (hPo : ∀ (Mz : sx_M0) (q : Int), myP M Mz n q → Po (some (sx_I q)) GL Mz) (Rr : sx_Ret SC (some .int) (rmk 4 160) Po E) (hnL : sx_nL E = 9) : sx_X SC E (0, 0) GL M 13 [(0, sx_A (53)), (1, sx_I (((n : Nat) : Int)))] [] := by
  refine sx_iconst C d_Mo_years_13 ?_
  refine sx_istore_n (lv' := [(2, sx_I (0)), (0, sx_A (53)), (1, sx_I (((n : Nat) : Int)))]) C d_Mo_years_14 rfl (by rw [hnL]; decide) rfl ?_
  refine sx_sub [0, 1, 2] rfl ?_
  refine lpA_years M hT hr n hn1 hn6 C hPo Rr hnL (fun MA hA => ?_) _ 0 M (Nat.lt_succ_self _) ⟨fun _ _ _ _ _ => rfl, fun y o q => absurd q (Nat.not_lt_zero y)⟩ (Nat.zero_le _)
  refine sx_iconst C d_Mo_years_31 ?_
  refine sx_istore_n (lv' := [(2, sx_I (0)), (0, sx_A (53)), (1, sx_I (((n : Nat) : Int)))]) C d_Mo_years_32 rfl (by rw [hnL]; decide) rfl ?_
  refine sx_sub [0, 1, 2] rfl ?_
  have hc := lpB_years M MA n hn1 hn6 C hPo Rr hnL (hk := ?_) 33 0 (by decide) (by decide)
  · rw [fl2_0] at hc; exact hc
  · have frA : ∀ a, a ≤ 62 → MA a = M a := fun a ha => hA.1 a (by omega) (by omega) (by omega) (by omega)
    generalize hMC : fl2 MA n 32 = MC
    have frC : ∀ a, a ≠ 70 → MC a = MA a := fun a ha => by rw [← hMC]; exact fl2_ne ha
    have hTC : tw MC := tw_fr (fun a ha => (frC a (by omega)).trans (frA a (by omega))) hT
    have hrC : rT MC := rT_fr (fun a ha => (frC a (by omega)).trans (frA a ha)) hT hr
    have hSC : ∀ y o, y < n → o < 32 → 0 ≤ MC 69 (32 * y + o) ∧ MC 69 (32 * y + o) ≤ 1000000000000 := fun y o q1 q2 => by rw [frC 69 (by decide)]; exact sd_bd (hA.2 y o q1 q2)
    refine sx_iload_n C 1 d_Mo_years_57 rfl rfl ?_
    refine sx_iconst C d_Mo_years_58 ?_
    refine sx_isub C d_Mo_years_59 ?_
    refine sx_istore_n (lv' := [(2, sx_I (((n : Nat) : Int) - 1)), (0, sx_A (53)), (1, sx_I (((n : Nat) : Int)))]) C d_Mo_years_60 rfl (by rw [hnL]; decide) rfl ?_
    refine sx_sub [0, 1, 2] rfl ?_
    refine lpC_years n hn1 hn6 M MC hTC hrC hSC C hPo Rr hnL (fun MB hB => ?_) n (Nat.le_refl n) MC ⟨fun _ _ => rfl, fun b2 q => by rw [← hMC]; exact fl2_at q, fun y b2 q1 q2 => by omega⟩
    have frB : ∀ a, a ≠ 65 → a ≠ 66 → a ≠ 68 → a ≠ 69 → a ≠ 70 → MB a = M a := fun a p1 p2 p3 p4 p5 => by rw [hB.1 a p5, frC a p5]; exact hA.1 a p1 p2 p3 p4
    have sdB : ∀ y o, y < n → o < 32 → sdP M (akS M (2 ^ (M 1 0).toNat - 1) y) o (MB 69 (32 * y + o)) := fun y o q1 q2 => by rw [hB.1 69 (by decide), frC 69 (by decide)]; exact hA.2 y o q1 q2
    have hTB : tw MB := tw_fr (fun a ha => frB a (by omega) (by omega) (by omega) (by omega) (by omega)) hT
    have hrB : rT MB := rT_fr (fun a ha => frB a (by omega) (by omega) (by omega) (by omega) (by omega)) hT hr
    have hSB : ∀ y o, y < n → o < 32 → 0 ≤ MB 69 (32 * y + o) ∧ MB 69 (32 * y + o) ≤ 1000000000000 := fun y o q1 q2 => sd_bd (sdB y o q1 q2)
    have rb0 := (hB.2.2 0 0 (Nat.le_refl 0) hn1 (by decide)).1
    rw [show 32 * 0 + 0 = 0 from rfl] at rb0
    refine sx_aload_n C 0 d_Mo_years_161 rfl rfl ?_
    refine sx_getr C f_Mo_66 70 (by decide) rfl rfl d_Mo_years_162 ?_
    refine sx_iconst C d_Mo_years_165 ?_
    refine sx_laload C 0 (by decide) rfl rfl rfl (by decide) (by decide) d_Mo_years_166 ?_
    refine sx_ldc2 (v := (1000000000000)) C (1000000000000) (tb_ 758 (by decide +kernel) rfl) (by decide) d_Mo_years_167 ?_
    refine sx_lcmp_lt C 176 ⟨by omega, by omega⟩ ⟨by omega, by omega⟩ d_Mo_years_170 d_Mo_years_171 (by decide) (fun c171 => ?_) (fun c171 => ?_)
    · refine sx_aload_n C 0 d_Mo_years_176 rfl rfl ?_
      refine sx_iload_n C 1 d_Mo_years_177 rfl rfl ?_
      refine sx_puti C p_Mo_187 (by decide) rfl d_Mo_years_178 ?_
      refine sx_iconst C d_Mo_years_181 ?_
      refine sx_istore_n (lv' := [(2, sx_I (0)), (0, sx_A (53)), (1, sx_I (((n : Nat) : Int)))]) C d_Mo_years_182 rfl (by rw [hnL]; decide) rfl ?_
      refine sx_iconst C d_Mo_years_183 ?_
      refine sx_istore_n (lv' := [(3, sx_I (0)), (2, sx_I (0)), (0, sx_A (53)), (1, sx_I (((n : Nat) : Int)))]) C d_Mo_years_184 rfl (by rw [hnL]; decide) rfl ?_
      refine sx_sub [0, 1, 2, 3] rfl ?_
      refine lpD_years n hn1 hn6 M MB hTB hrB hSB hB.2.1 (fun y b2 q1 q2 => hB.2.2 y b2 (Nat.zero_le y) q1 q2) (fun M2 b2 h2 => ⟨MB, frB, sdB, hB.2.1, fun y b3 q1 q2 => hB.2.2 y b3 (Nat.zero_le y) q1 q2, Or.inr ⟨by omega, rfl, b2, h2⟩⟩) C hPo Rr hnL _ 0 0 _ (Nat.lt_succ_self _) ⟨fun a p1 _ => sx_up_ne p1, fun j hj => sx_up_slot hj, sx_up_at, by decide, by rw [show 32 * 0 + 0 = 0 from rfl]; omega, fun _ => 0, rfl, rfl, fun j hj => absurd hj (Nat.not_lt_zero j)⟩ (Nat.zero_le _)
    · refine sx_iconst C d_Mo_years_174 ?_
      refine sx_ireturn C Rr rfl d_Mo_years_175 ?_
      exact hPo _ (-1) ⟨MB, frB, sdB, hB.2.1, fun y b2 q1 q2 => hB.2.2 y b2 (Nat.zero_le y) q1 q2, Or.inl ⟨by omega, rfl, rfl⟩⟩
set_option maxRecDepth 100000 in
set_option maxHeartbeats 4000000 in
theorem ct_Mo_years (l : Launch) (D : va_G) (tc : Nat → ClassId) (M : sx_M0) (hT : tw M) (hr : rT M) (k : Int) (hk : sx_r32 k) : sx_Met SC l D tc y_Mo_years w_Mo_years (rmk 4 160) [sx_A (53), sx_I (k)] GL M (fun r G' M' => G' = GL ∧ ∃ q : Int, r = some (sx_I q) ∧ ((¬ (1 ≤ k ∧ k ≤ 6) ∧ q = -1 ∧ M' = M) ∨ (1 ≤ k ∧ k ≤ 6 ∧ myP M M' k.toNat q))) := by
  refine sx_enter (by decide) rfl (Nat.le_of_ble_eq_true rfl) (Ts := g_tbl) (fun _ h => List.mem_cons_of_mem _ h) (fun E C Rr hnm hnL => ?_)
  refine sx_iload_n C 1 d_Mo_years_0 rfl rfl ?_
  refine sx_iconst C d_Mo_years_1 ?_
  refine sx_icmp_lt C 11 ⟨by omega, by omega⟩ ⟨by omega, by omega⟩ d_Mo_years_2 (by decide) (fun c2 => ?_) (fun c2 => ?_)
  · refine sx_iconst C d_Mo_years_11 ?_
    refine sx_ireturn C Rr rfl d_Mo_years_12 ?_
    exact ⟨rfl, -1, rfl, Or.inl ⟨by omega, rfl, rfl⟩⟩
  · refine sx_iload_n C 1 d_Mo_years_5 rfl rfl ?_
    refine sx_bipush C d_Mo_years_6 (by decide) ?_
    refine sx_icmp_le C 13 ⟨by omega, by omega⟩ ⟨by omega, by omega⟩ d_Mo_years_8 (by decide) (fun c8 => ?_) (fun c8 => ?_)
    · have kk : k = ((k.toNat : Nat) : Int) := by omega
      refine Eq.mpr (congrArg (fun q => sx_X SC E (0, 0) GL M 13 [(0, sx_A (53)), (1, sx_I q)] []) kk) ?_
      exact s13_years M hT hr k.toNat (by omega) (by omega) C (fun Mz q hq => ⟨rfl, q, rfl, Or.inr ⟨by omega, by omega, hq⟩⟩) Rr hnL
    · refine sx_iconst C d_Mo_years_11 ?_
      refine sx_ireturn C Rr rfl d_Mo_years_12 ?_
      exact ⟨rfl, -1, rfl, Or.inl ⟨by omega, rfl, rfl⟩⟩
