def upf (g : Nat → Int) (d : Nat) (p : Int) : Nat → Int := fun e => if e = d then p else g e
def exF (M : sx_M0) (ak g : Nat → Int) (d p : Nat) : Prop := 0 ≤ g d ∧ (p : Int) ≠ g d ∧ FP M ak (upf g d (p : Int)) (-1) ∧ smF M ak (upf g d (p : Int)) (M 1 0).toNat < smF M ak g (M 1 0).toNat
def mx1 (M : sx_M0) (ak g : Nat → Int) (d p : Nat) : Prop := d < (M 1 0).toNat ∧ p < (M 1 1).toNat ∧ exF M ak g d p ∧ (∀ e q, e < d → q < (M 1 1).toNat → ¬ exF M ak g e q) ∧ (∀ q, q < p → ¬ exF M ak g d q)
def noM (M : sx_M0) (ak g : Nat → Int) : Prop := ∀ d p, d < (M 1 0).toNat → p < (M 1 1).toNat → ¬ exF M ak g d p
def chM (M : sx_M0) (ak : Nat → Int) : Nat → (Nat → Int) → (Nat → Int) → Prop
  | 0, g, g' => g' = g
  | j + 1, g, g' => ∃ g1, chM M ak j g g1 ∧ ∃ d p : Nat, mx1 M ak g1 d p ∧ g' = upf g1 d (p : Int)
theorem exF_congr {M M' : sx_M0} {ak ak' g : Nat → Int} (h6 : (M 1 0).toNat ≤ 6) (hM : ∀ a, a ≤ 16 → M' a = M a) (h2 : ∀ d, d < (M 1 0).toNat → ak d = ak' d) {d p : Nat} : exF M' ak g d p ↔ exF M ak' g d p := by
  unfold exF
  rw [hM 1 (by decide), FP_congr h6 hM (fun _ _ => rfl) h2, smF_congr (M := M) h6 hM (fun _ _ => rfl) h2, smF_congr (M := M) (ak' := ak') (g' := g) h6 hM (fun _ _ => rfl) h2]
theorem mx1_congr {M M' : sx_M0} {ak ak' g : Nat → Int} (h6 : (M 1 0).toNat ≤ 6) (hM : ∀ a, a ≤ 16 → M' a = M a) (h2 : ∀ d, d < (M 1 0).toNat → ak d = ak' d) {d p : Nat} : mx1 M' ak g d p → mx1 M ak' g d p := by
  intro h
  unfold mx1 at h ⊢
  rw [hM 1 (by decide)] at h
  exact ⟨h.1, h.2.1, (exF_congr h6 hM h2).mp h.2.2.1, fun e q a b c => h.2.2.2.1 e q a b ((exF_congr h6 hM h2).mpr c), fun q a c => h.2.2.2.2 q a ((exF_congr h6 hM h2).mpr c)⟩
theorem noM_congr {M M' : sx_M0} {ak ak' g : Nat → Int} (h6 : (M 1 0).toNat ≤ 6) (hM : ∀ a, a ≤ 16 → M' a = M a) (h2 : ∀ d, d < (M 1 0).toNat → ak d = ak' d) : noM M' ak g → noM M ak' g := by
  intro h d p a b c
  unfold noM at h
  rw [hM 1 (by decide)] at h
  exact h d p a b ((exF_congr h6 hM h2).mpr c)
theorem chM_congr {M M' : sx_M0} {ak ak' : Nat → Int} (h6 : (M 1 0).toNat ≤ 6) (hM : ∀ a, a ≤ 16 → M' a = M a) (h2 : ∀ d, d < (M 1 0).toNat → ak d = ak' d) : ∀ {j : Nat} {g g' : Nat → Int}, chM M' ak j g g' → chM M ak' j g g'
  | 0, _, _, h => h
  | j + 1, g, g', h => by
    obtain ⟨g1, h1, d, p, h3, h4⟩ := h
    exact ⟨g1, chM_congr h6 hM h2 h1, d, p, mx1_congr h6 hM h2 h3, h4⟩
def xmI (M0 M : sx_M0) (d : Nat) : Prop := (∀ a, a ≠ 63 → M a = M0 a) ∧ (∀ e, e ≠ d → M 63 e = M0 63 e)
theorem xm_up {M0 M : sx_M0} {d : Nat} (h : xmI M0 M d) (p : Int) : sx_up M 63 d p 63 = upf (M0 63) d p := by
  funext e
  unfold upf
  by_cases q : e = d
  · rw [q, if_pos rfl, sx_up_at]
  · rw [if_neg q, sx_up_slot q]; exact h.2 e q
theorem xm_back {M0 M : sx_M0} {d : Nat} (h : xmI M0 M d) : sx_up M 63 d (M0 63 d) = M0 := by
  funext a b
  by_cases q : a = 63
  · subst q
    by_cases q2 : b = d
    · rw [q2, sx_up_at]
    · rw [sx_up_slot q2]; exact h.2 b q2
  · rw [sx_up_ne q, h.1 a q]
set_option maxRecDepth 100000 in
set_option maxHeartbeats 4000000 in
theorem lp2_Mo_exchange  (M0 : sx_M0) (hT : tw M0) (hr : rT M0) (hA : ∀ d, d < 6 → 0 ≤ M0 66 d ∧ M0 66 d ≤ 150) (hg : ∀ d, d < (M0 1 0).toNat → -1 ≤ M0 63 d ∧ M0 63 d < M0 1 1) (d : Nat) (hd : d < (M0 1 0).toNat) (hprev : ∀ e q, e < d → q < (M0 1 1).toNat → ¬ exF M0 (M0 66) (M0 63) e q) {E : sx_E} (C : sx_C SC g_tbl "SiteChoiceModel" c_Mo_exchange E) (Rr : sx_Ret SC (some .boolean) (rmk 3 120) (fun r G' M' => G' = GL ∧ (∀ a, a ≠ 63 → M' a = M0 a) ∧ ((r = some (sx_I 1) ∧ ∃ d p, mx1 M0 (M0 66) (M0 63) d p ∧ M' 63 = upf (M0 63) d (p : Int)) ∨ (r = some (sx_I 0) ∧ noM M0 (M0 66) (M0 63) ∧ M' = M0))) E) (hnL : sx_nL E = 6) (hk : ∀ _ : (∀ q, q < (M0 1 1).toNat → ¬ exF M0 (M0 66) (M0 63) d q), sx_X SC E (0, 0) GL M0 100 [(3, sx_I (((d : Nat) : Int))), (1, sx_J (smF M0 (M0 66) (M0 63) (M0 1 0).toNat)), (0, sx_A (53))] []) : ∀ (nF : Nat) (p : Nat) (M : sx_M0), (M0 1 1).toNat - p < nF → xmI M0 M d → (∀ q, q < p → ¬ exF M0 (M0 66) (M0 63) d q) → p ≤ (M0 1 1).toNat → sx_X SC E (0, 0) GL M 30 [(5, sx_I (((p : Nat) : Int))), (4, sx_I (M0 63 d)), (3, sx_I (((d : Nat) : Int))), (1, sx_J (smF M0 (M0 66) (M0 63) (M0 1 0).toNat)), (0, sx_A (53))] [] := by
  intro nF
  induction nF with
  | zero => intro p M h; omega
  | succ nF ih =>
    intro p M hn h1 h2 h3
    have g0 := hT.1
    have g1 := hT.2.1
    have gd := hg d (by omega)
    have sn := smF_bd hT (g := M0 63) hA (n := (M0 1 0).toNat) (by omega) (fun e he => by have := hg e he; omega)
    refine sx_iload C 0 d_Mo_exchange_30 rfl ?_
    refine sx_aload_n C 4 d_Mo_exchange_32 rfl rfl ?_
    refine sx_geti C f_Mo_77 (by decide) rfl d_Mo_exchange_33 ?_
    rw [show M 53 1 = M0 1 1 from by rw [h1.1 53 (by decide)]; exact hr.2.1]
    refine sx_icmp_ge C 92 ⟨by omega, by omega⟩ ⟨by omega, by omega⟩ d_Mo_exchange_36 (by decide) (fun c36 => ?_) (fun c36 => ?_)
    · refine sx_aload_n C 4 d_Mo_exchange_92 rfl rfl ?_
      refine sx_getr C f_Mo_44 63 (by decide) rfl rfl d_Mo_exchange_93 ?_
      refine sx_iload_n C 2 d_Mo_exchange_96 rfl rfl ?_
      refine sx_iload C 1 d_Mo_exchange_97 rfl ?_
      refine sx_iastore C d (by decide) rfl rfl rfl (by omega) (by decide) d_Mo_exchange_99 ?_
      rw [xm_back h1]
      refine sx_sub [2, 3, 4] rfl ?_
      exact hk (fun q hq y => by have y0 := y.1; first | (exfalso; omega) | exact h2 q (by omega) y)
    · refine sx_iload C 1 d_Mo_exchange_39 rfl ?_
      refine sx_if_lt C 92 ⟨by omega, by omega⟩ d_Mo_exchange_41 (by decide) (fun c41 => ?_) (fun c41 => ?_)
      · refine sx_aload_n C 4 d_Mo_exchange_92 rfl rfl ?_
        refine sx_getr C f_Mo_44 63 (by decide) rfl rfl d_Mo_exchange_93 ?_
        refine sx_iload_n C 2 d_Mo_exchange_96 rfl rfl ?_
        refine sx_iload C 1 d_Mo_exchange_97 rfl ?_
        refine sx_iastore C d (by decide) rfl rfl rfl (by omega) (by decide) d_Mo_exchange_99 ?_
        rw [xm_back h1]
        refine sx_sub [2, 3, 4] rfl ?_
        exact hk (fun q hq y => by have y0 := y.1; first | (exfalso; omega) | exact h2 q (by omega) y)
      · refine sx_aload_n C 4 d_Mo_exchange_44 rfl rfl ?_
        refine sx_getr C f_Mo_44 63 (by decide) rfl rfl d_Mo_exchange_45 ?_
        refine sx_iload_n C 2 d_Mo_exchange_48 rfl rfl ?_
        refine sx_iload C 0 d_Mo_exchange_49 rfl ?_
        refine sx_iastore C d (by decide) rfl rfl rfl (by omega) (by decide) d_Mo_exchange_51 ?_
        have hg1 : ∀ e, e < (M0 1 0).toNat → -1 ≤ (upf (M0 63) d ((p : Nat) : Int)) e ∧ (upf (M0 63) d ((p : Nat) : Int)) e < M0 1 1 := fun e he => by unfold upf; by_cases q : e = d; (rw [if_pos q]; omega); (rw [if_neg q]; exact hg e he)
        have frU : ∀ a, a ≠ 63 → (sx_up M 63 d ((p : Nat) : Int)) a = M0 a := fun a ha => by rw [sx_up_ne ha]; exact h1.1 a ha
        have e63 : (sx_up M 63 d ((p : Nat) : Int)) 63 = (upf (M0 63) d ((p : Nat) : Int)) := xm_up h1 _
        have hTU : tw (sx_up M 63 d ((p : Nat) : Int)) := tw_fr (fun a ha => frU a (by omega)) hT
        have hrU : rT (sx_up M 63 d ((p : Nat) : Int)) := rT_fr (fun a ha => frU a (by omega)) hT hr
        have hAU : ∀ d2, d2 < 6 → 0 ≤ (sx_up M 63 d ((p : Nat) : Int)) 66 d2 ∧ (sx_up M 63 d ((p : Nat) : Int)) 66 d2 ≤ 150 := fun e he => by rw [frU 66 (by decide)]; exact hA e he
        have sb := smF_bd hT (g := (upf (M0 63) d ((p : Nat) : Int))) hA (n := (M0 1 0).toNat) (by omega) (fun e he => by have := hg1 e he; omega)
        refine sx_iload C 0 d_Mo_exchange_52 rfl ?_
        refine sx_iload C 1 d_Mo_exchange_54 rfl ?_
        refine sx_icmp_eq C 86 ⟨by omega, by omega⟩ ⟨by omega, by omega⟩ d_Mo_exchange_56 (by decide) (fun c56 => ?_) (fun c56 => ?_)
        · refine sx_iinc (lv' := [(5, sx_I (((p + 1 : Nat) : Int))), (4, sx_I (M0 63 d)), (3, sx_I (((d : Nat) : Int))), (1, sx_J (smF M0 (M0 66) (M0 63) (M0 1 0).toNat)), (0, sx_A (53))]) C 0 d_Mo_exchange_86 rfl (by rw [hnL]; decide) rfl ?_
          refine sx_goto C 30 d_Mo_exchange_89 (by decide) ?_
          refine sx_sub [0, 1, 2, 3, 4] rfl ?_
          refine ih (p + 1) _ (by omega) ⟨frU, fun e he => by rw [sx_up_slot he]; exact h1.2 e he⟩ (fun q hq => ?_) (by omega)
          rcases Nat.lt_or_ge q p with y | y
          · exact h2 q y
          · rw [show q = p by omega]
            intro y2
            first | exact absurd (show ((p : Nat) : Int) = M0 63 d by omega) y2.2.1 | (rcases hb65 with ⟨z1, z2⟩ | ⟨z1, z2⟩; (exfalso; omega); exact z2 y2.2.2.1) | (have := y2.2.2.2; omega)
        · refine sx_aload_n C 4 d_Mo_exchange_59 rfl rfl ?_
          refine sx_aload_n C 4 d_Mo_exchange_60 rfl rfl ?_
          refine sx_getr C f_Mo_44 63 (by decide) rfl rfl d_Mo_exchange_61 ?_
          refine sx_iconst C d_Mo_exchange_64 ?_
          refine sx_callV (n := 71) (As := [sx_A (63), sx_I (-1)]) (st := []) C (ct_Mo_isPlan _ _ _ (sx_up M 63 d ((p : Nat) : Int)) hTU hrU hAU 63 (by decide) rfl (fun e he => by rw [e63]; rw [frU 1 (by decide)] at he ⊢; exact hg1 e he) (-1) ⟨by decide, by decide⟩) rfl (by decide) rfl (cv_Mo_129 E C _ (by rw [Rr.2.2]; decide)) (Nat.le_of_ble_eq_true rfl) d_Mo_exchange_65 (by rw [Rr.2.2]; decide) (by decide) rfl rfl rfl (fun r65 G65 M65 hpo _ => ?_)
          obtain ⟨ee1, ee2, b65, rfl, hb65⟩ := hpo
          rw [ee1, ee2]
          rw [e63, frU 66 (by decide), FP_congr (by omega) (fun a ha => frU a (by omega)) (fun _ _ => rfl) (fun _ _ => rfl)] at hb65
          show sx_X SC E (0, 0) GL (sx_up M 63 d ((p : Nat) : Int)) 68 [(5, sx_I (((p : Nat) : Int))), (4, sx_I (M0 63 d)), (3, sx_I (((d : Nat) : Int))), (1, sx_J (smF M0 (M0 66) (M0 63) (M0 1 0).toNat)), (0, sx_A (53))] [sx_I (b65)]
          refine sx_if_eq C 86 ⟨by omega, by omega⟩ d_Mo_exchange_68 (by decide) (fun c68 => ?_) (fun c68 => ?_)
          · refine sx_iinc (lv' := [(5, sx_I (((p + 1 : Nat) : Int))), (4, sx_I (M0 63 d)), (3, sx_I (((d : Nat) : Int))), (1, sx_J (smF M0 (M0 66) (M0 63) (M0 1 0).toNat)), (0, sx_A (53))]) C 0 d_Mo_exchange_86 rfl (by rw [hnL]; decide) rfl ?_
            refine sx_goto C 30 d_Mo_exchange_89 (by decide) ?_
            refine sx_sub [0, 1, 2, 3, 4] rfl ?_
            refine ih (p + 1) _ (by omega) ⟨frU, fun e he => by rw [sx_up_slot he]; exact h1.2 e he⟩ (fun q hq => ?_) (by omega)
            rcases Nat.lt_or_ge q p with y | y
            · exact h2 q y
            · rw [show q = p by omega]
              intro y2
              first | exact absurd (show ((p : Nat) : Int) = M0 63 d by omega) y2.2.1 | (rcases hb65 with ⟨z1, z2⟩ | ⟨z1, z2⟩; (exfalso; omega); exact z2 y2.2.2.1) | (have := y2.2.2.2; omega)
          · refine sx_aload_n C 4 d_Mo_exchange_71 rfl rfl ?_
            refine sx_aload_n C 4 d_Mo_exchange_72 rfl rfl ?_
            refine sx_getr C f_Mo_44 63 (by decide) rfl rfl d_Mo_exchange_73 ?_
            refine sx_callV (n := 71) (As := [sx_A (63)]) (st := []) C (ct_Mo_sumOf _ _ _ (sx_up M 63 d ((p : Nat) : Int)) hTU hrU 63 (by decide) rfl (fun e he => by rw [e63]; rw [frU 1 (by decide)] at he; have := hg1 e he; omega)) rfl (by decide) rfl (cv_Mo_132 E C _ (by rw [Rr.2.2]; decide)) (Nat.le_of_ble_eq_true rfl) d_Mo_exchange_76 (by rw [Rr.2.2]; decide) (by decide) rfl rfl rfl (fun r76 G76 M76 hpo _ => ?_)
            obtain ⟨ee1, ee2, rfl⟩ := hpo
            rw [ee1, ee2]
            rw [e63, frU 66 (by decide), frU 1 (by decide), smF_congr (M := M0) (by omega) (fun a ha => frU a (by omega)) (fun _ _ => rfl) (fun _ _ => rfl)]
            show sx_X SC E (0, 0) GL (sx_up M 63 d ((p : Nat) : Int)) 79 [(5, sx_I (((p : Nat) : Int))), (4, sx_I (M0 63 d)), (3, sx_I (((d : Nat) : Int))), (1, sx_J (smF M0 (M0 66) (M0 63) (M0 1 0).toNat)), (0, sx_A (53))] [sx_J (smF M0 (M0 66) (upf (M0 63) d ((p : Nat) : Int)) (M0 1 0).toNat)]
            refine sx_lload_n C 3 d_Mo_exchange_79 rfl rfl ?_
            refine sx_lcmp_ge C 86 ⟨by omega, by omega⟩ ⟨by omega, by omega⟩ d_Mo_exchange_80 d_Mo_exchange_81 (by decide) (fun c81 => ?_) (fun c81 => ?_)
            · refine sx_iinc (lv' := [(5, sx_I (((p + 1 : Nat) : Int))), (4, sx_I (M0 63 d)), (3, sx_I (((d : Nat) : Int))), (1, sx_J (smF M0 (M0 66) (M0 63) (M0 1 0).toNat)), (0, sx_A (53))]) C 0 d_Mo_exchange_86 rfl (by rw [hnL]; decide) rfl ?_
              refine sx_goto C 30 d_Mo_exchange_89 (by decide) ?_
              refine sx_sub [0, 1, 2, 3, 4] rfl ?_
              refine ih (p + 1) _ (by omega) ⟨frU, fun e he => by rw [sx_up_slot he]; exact h1.2 e he⟩ (fun q hq => ?_) (by omega)
              rcases Nat.lt_or_ge q p with y | y
              · exact h2 q y
              · rw [show q = p by omega]
                intro y2
                first | exact absurd (show ((p : Nat) : Int) = M0 63 d by omega) y2.2.1 | (rcases hb65 with ⟨z1, z2⟩ | ⟨z1, z2⟩; (exfalso; omega); exact z2 y2.2.2.1) | (have := y2.2.2.2; omega)
            · refine sx_iconst C d_Mo_exchange_84 ?_
              refine sx_zreturn C Rr (by omega) rfl d_Mo_exchange_85 ?_
              refine ⟨rfl, frU, Or.inl ⟨rfl, d, p, ⟨by omega, by omega, ⟨by omega, by omega, by rcases hb65 with ⟨z1, z2⟩ | ⟨z1, z2⟩; (exact z2); (exfalso; omega), by omega⟩, hprev, h2⟩, e63⟩⟩
set_option maxRecDepth 100000 in
set_option maxHeartbeats 4000000 in
theorem lp_Mo_exchange  (M0 : sx_M0) (hT : tw M0) (hr : rT M0) (hA : ∀ d, d < 6 → 0 ≤ M0 66 d ∧ M0 66 d ≤ 150) (hg : ∀ d, d < (M0 1 0).toNat → -1 ≤ M0 63 d ∧ M0 63 d < M0 1 1) {E : sx_E} (C : sx_C SC g_tbl "SiteChoiceModel" c_Mo_exchange E) (Rr : sx_Ret SC (some .boolean) (rmk 3 120) (fun r G' M' => G' = GL ∧ (∀ a, a ≠ 63 → M' a = M0 a) ∧ ((r = some (sx_I 1) ∧ ∃ d p, mx1 M0 (M0 66) (M0 63) d p ∧ M' 63 = upf (M0 63) d (p : Int)) ∨ (r = some (sx_I 0) ∧ noM M0 (M0 66) (M0 63) ∧ M' = M0))) E) (hnL : sx_nL E = 6) : ∀ (nF : Nat) (d : Nat), (M0 1 0).toNat - d < nF → (∀ e q, e < d → q < (M0 1 1).toNat → ¬ exF M0 (M0 66) (M0 63) e q) → d ≤ (M0 1 0).toNat → sx_X SC E (0, 0) GL M0 11 [(3, sx_I (((d : Nat) : Int))), (1, sx_J (smF M0 (M0 66) (M0 63) (M0 1 0).toNat)), (0, sx_A (53))] [] := by
  intro nF
  induction nF with
  | zero => intro d h; omega
  | succ nF ih =>
    intro d hn h1 h2
    have g0 := hT.1
    have g1 := hT.2.1
    refine sx_iload_n C 0 d_Mo_exchange_11 rfl rfl ?_
    refine sx_aload_n C 2 d_Mo_exchange_12 rfl rfl ?_
    refine sx_geti C f_Mo_73 (by decide) rfl d_Mo_exchange_13 ?_
    rw [hr.1]
    refine sx_icmp_ge C 106 ⟨by omega, by omega⟩ ⟨by omega, by omega⟩ d_Mo_exchange_16 (by decide) (fun c16 => ?_) (fun c16 => ?_)
    · refine sx_iconst C d_Mo_exchange_106 ?_
      refine sx_zreturn C Rr (by omega) rfl d_Mo_exchange_107 ?_
      exact ⟨rfl, fun _ _ => rfl, Or.inr ⟨rfl, fun e q y1 y2 => h1 e q (by omega) y2, rfl⟩⟩
    · refine sx_aload_n C 2 d_Mo_exchange_19 rfl rfl ?_
      refine sx_getr C f_Mo_44 63 (by decide) rfl rfl d_Mo_exchange_20 ?_
      refine sx_iload_n C 0 d_Mo_exchange_23 rfl rfl ?_
      refine sx_iaload C d (by decide) rfl rfl rfl (by omega) (by decide) d_Mo_exchange_24 ?_
      refine sx_istore (lv' := [(4, sx_I (M0 63 d)), (3, sx_I (((d : Nat) : Int))), (1, sx_J (smF M0 (M0 66) (M0 63) (M0 1 0).toNat)), (0, sx_A (53))]) C d_Mo_exchange_25 (by rw [hnL]; decide) rfl ?_
      refine sx_iconst C d_Mo_exchange_27 ?_
      refine sx_istore (lv' := [(5, sx_I (0)), (4, sx_I (M0 63 d)), (3, sx_I (((d : Nat) : Int))), (1, sx_J (smF M0 (M0 66) (M0 63) (M0 1 0).toNat)), (0, sx_A (53))]) C d_Mo_exchange_28 (by rw [hnL]; decide) rfl ?_
      refine sx_sub [0, 1, 2, 3, 4] rfl ?_
      refine lp2_Mo_exchange M0 hT hr hA hg d (by omega) h1 C Rr hnL (fun hx2 => ?_) _ 0 M0 (Nat.lt_succ_self _) ⟨fun _ _ => rfl, fun _ _ => rfl⟩ (fun q hq => absurd hq (Nat.not_lt_zero q)) (Nat.zero_le _)
      refine sx_iinc (lv' := [(3, sx_I (((d + 1 : Nat) : Int))), (1, sx_J (smF M0 (M0 66) (M0 63) (M0 1 0).toNat)), (0, sx_A (53))]) C 0 d_Mo_exchange_100 rfl (by rw [hnL]; decide) rfl ?_
      refine sx_goto C 11 d_Mo_exchange_103 (by decide) ?_
      refine sx_sub [0, 1, 2] rfl ?_
      exact ih (d + 1) (by omega) (fun e q y1 y2 => by rcases Nat.lt_or_ge e d with y | y; exact h1 e q y y2; rw [show e = d by omega]; exact hx2 q y2) (by omega)
set_option maxRecDepth 100000 in
set_option maxHeartbeats 4000000 in
theorem ct_Mo_exchange (l : Launch) (D : va_G) (tc : Nat → ClassId) (M : sx_M0) (hT : tw M) (hr : rT M) (hA : ∀ d, d < 6 → 0 ≤ M 66 d ∧ M 66 d ≤ 150) (hg : ∀ d, d < (M 1 0).toNat → -1 ≤ M 63 d ∧ M 63 d < M 1 1) : sx_Met SC l D tc y_Mo_exchange w_Mo_exchange (rmk 3 120) [sx_A (53)] GL M (fun r G' M' => G' = GL ∧ (∀ a, a ≠ 63 → M' a = M a) ∧ ((r = some (sx_I 1) ∧ ∃ d p, mx1 M (M 66) (M 63) d p ∧ M' 63 = upf (M 63) d (p : Int)) ∨ (r = some (sx_I 0) ∧ noM M (M 66) (M 63) ∧ M' = M))) := by
  refine sx_enter (by decide) rfl (Nat.le_of_ble_eq_true rfl) (Ts := g_tbl) (fun _ h => List.mem_cons_of_mem _ h) (fun E C Rr hnm hnL => ?_)
  have g1 := hT.2.1
  refine sx_aload_n C 0 d_Mo_exchange_0 rfl rfl ?_
  refine sx_aload_n C 0 d_Mo_exchange_1 rfl rfl ?_
  refine sx_getr C f_Mo_44 63 (by decide) rfl rfl d_Mo_exchange_2 ?_
  refine sx_callV (n := 71) (As := [sx_A (63)]) (st := []) C (ct_Mo_sumOf _ _ _ M hT hr 63 (by decide) rfl (fun e he => by have := hg e he; omega)) rfl (by decide) rfl (cv_Mo_132 E C _ (by rw [Rr.2.2]; decide)) (Nat.le_of_ble_eq_true rfl) d_Mo_exchange_5 (by rw [Rr.2.2]; decide) (by decide) rfl rfl rfl (fun r5 G5 M5 hpo _ => ?_)
  obtain ⟨ee1, ee2, rfl⟩ := hpo
  rw [ee1, ee2]
  show sx_X SC E (0, 0) GL M 8 [(0, sx_A (53))] [sx_J (smF M (M 66) (M 63) (M 1 0).toNat)]
  refine sx_lstore_n (lv' := [(1, sx_J (smF M (M 66) (M 63) (M 1 0).toNat)), (0, sx_A (53))]) C d_Mo_exchange_8 rfl (by rw [hnL]; decide) rfl ?_
  refine sx_iconst C d_Mo_exchange_9 ?_
  refine sx_istore_n (lv' := [(3, sx_I (0)), (1, sx_J (smF M (M 66) (M 63) (M 1 0).toNat)), (0, sx_A (53))]) C d_Mo_exchange_10 rfl (by rw [hnL]; decide) rfl ?_
  refine sx_sub [0, 1, 2] rfl ?_
  exact lp_Mo_exchange M hT hr hA hg C Rr hnL _ 0 (Nat.lt_succ_self _) (fun e q y => absurd y (Nat.not_lt_zero e)) (Nat.zero_le _)
theorem mx_bd {M : sx_M0} {ak g : Nat → Int} {d p : Nat} {P : Int} {D : Nat} (hP : (p : Int) < P) (hg : ∀ e, e < D → -1 ≤ g e ∧ g e < P) : ∀ e, e < D → -1 ≤ upf g d (p : Int) e ∧ upf g d (p : Int) e < P := fun e he => by
  unfold upf
  by_cases q : e = d
  · rw [if_pos q]; omega
  · rw [if_neg q]; exact hg e he
def imM (A M : sx_M0) (j : Nat) : Prop := (∀ a, a ≠ 63 → M a = A a) ∧ chM A (A 66) j (A 63) (M 63) ∧ (∀ d, d < (A 1 0).toNat → -1 ≤ M 63 d ∧ M 63 d < A 1 1)
def miP (M M' : sx_M0) (k r : Int) : Prop := ((M 53 12 = 0 ∨ k < 0) ∧ r = -1 ∧ M' = M) ∨ (M 53 12 = 1 ∧ 0 ≤ k ∧ ∃ (j : Nat), r = (j : Int) ∧ chM M (akS M (2 ^ (M 1 0).toNat - 1) 0) j (M 63) (M' 63) ∧ (j : Int) ≤ k ∧ ((j : Int) = k ∨ noM M (akS M (2 ^ (M 1 0).toNat - 1) 0) (M' 63)) ∧ (∀ a, a ≠ 53 → a ≠ 63 → a ≠ 65 → a ≠ 66 → M' a = M a) ∧ (∀ b, b ≠ 14 → M' 53 b = M 53 b) ∧ M' 53 14 = smF M (akS M (2 ^ (M 1 0).toNat - 1) 0) (M' 63) (M 1 0).toNat)
set_option maxRecDepth 100000 in
set_option maxHeartbeats 4000000 in
theorem lp_Mo_improve  (M : sx_M0) (hT : tw M) (hr : rT M) (hz : M 53 12 = 0 ∨ M 53 12 = 1) (hg : M 53 12 = 1 → ∀ d, d < (M 1 0).toNat → -1 ≤ M 63 d ∧ M 63 d < M 1 1) (k : Int) (hk : sx_r32 k) (hz1 : M 53 12 = 1) (hk0 : 0 ≤ k) {E : sx_E} (C : sx_C SC g_tbl "SiteChoiceModel" c_Mo_improve E) (Rr : sx_Ret SC (some .int) (rmk 4 160) (fun r G' M' => G' = GL ∧ ∃ q : Int, r = some (sx_I q) ∧ miP M M' k q) E) (hnL : sx_nL E = 3) : ∀ (nF : Nat) (j : Nat) (X : sx_M0), k.toNat - j < nF → imM (akI M (2 ^ (M 1 0).toNat - 1) 0 6) X j → (j : Int) ≤ k → sx_X SC E (0, 0) GL X 24 [(2, sx_I (((j : Nat) : Int))), (0, sx_A (53)), (1, sx_I (k))] [] := by
  intro nF
  induction nF with
  | zero => intro j X h; omega
  | succ nF ih =>
    intro j X hn h h2
    have g0 := hT.1
    have g1 := hT.2.1
    have ap := ak_pre hT hr (u := (2 ^ (M 1 0).toNat - 1)) (y := 0) (by decide)
    have frA : ∀ a, a ≠ 65 → a ≠ 66 → (akI M (2 ^ (M 1 0).toNat - 1) 0 6) a = M a := fun a p1 p2 => ak_ne p1 p2
    have frX : ∀ a, a ≤ 62 → X a = (akI M (2 ^ (M 1 0).toNat - 1) 0 6) a := fun a ha => h.1 a (by omega)
    have hTX : tw X := tw_fr (fun a ha => frX a (by omega)) ap.1
    have hrX : rT X := rT_fr frX ap.1 ap.2.1
    have e1X : X 1 = M 1 := (frX 1 (by decide)).trans (frA 1 (by decide) (by decide))
    have hAX : ∀ d, d < 6 → 0 ≤ X 66 d ∧ X 66 d ≤ 150 := fun d hd => by rw [h.1 66 (by decide)]; exact ap.2.2.1 d hd
    have hgX : ∀ d, d < (X 1 0).toNat → -1 ≤ X 63 d ∧ X 63 d < X 1 1 := fun d hd => by have := h.2.2 d (by rw [← frX 1 (by decide)]; exact hd); rw [← frX 1 (by decide)] at this; exact this
    have fr16 : ∀ a, a ≤ 16 → (akI M (2 ^ (M 1 0).toNat - 1) 0 6) a = M a := fun a ha => frA a (by omega) (by omega)
    have akk : ∀ d, d < (M 1 0).toNat → (akI M (2 ^ (M 1 0).toNat - 1) 0 6) 66 d = akS M (2 ^ (M 1 0).toNat - 1) 0 d := fun d hd => ak_66 (by omega)
    have fX16 : ∀ a, a ≤ 16 → X a = M a := fun a ha => (frX a (by omega)).trans (fr16 a ha)
    have akX : ∀ d, d < (M 1 0).toNat → X 66 d = akS M (2 ^ (M 1 0).toNat - 1) 0 d := fun d hd => by rw [h.1 66 (by decide)]; exact akk d hd
    refine sx_iload_n C 0 d_Mo_improve_24 rfl rfl ?_
    refine sx_iload_n C 2 d_Mo_improve_25 rfl rfl ?_
    refine sx_icmp_ge C 42 ⟨by omega, by omega⟩ ⟨by omega, by omega⟩ d_Mo_improve_26 (by decide) (fun c26 => ?_) (fun c26 => ?_)
    · refine sx_aload_n C 1 d_Mo_improve_42 rfl rfl ?_
      refine sx_aload_n C 1 d_Mo_improve_43 rfl rfl ?_
      refine sx_aload_n C 1 d_Mo_improve_44 rfl rfl ?_
      refine sx_getr C f_Mo_44 63 (by decide) rfl rfl d_Mo_improve_45 ?_
      refine sx_callV (n := 71) (As := [sx_A (63)]) (st := [sx_A (53)]) C (ct_Mo_sumOf _ _ _ X hTX hrX 63 (by decide) rfl (fun e he => by have := hgX e he; rw [e1X] at this; omega)) rfl (by decide) rfl (cv_Mo_132 E C _ (by rw [Rr.2.2]; decide)) (Nat.le_of_ble_eq_true rfl) d_Mo_improve_48 (by rw [Rr.2.2]; decide) (by decide) rfl rfl rfl (fun r48 G48 M48 hpo _ => ?_)
      obtain ⟨ee1, ee2, rfl⟩ := hpo
      rw [ee1, ee2]
      show sx_X SC E (0, 0) GL X 51 [(2, sx_I (((j : Nat) : Int))), (0, sx_A (53)), (1, sx_I (k))] [sx_J (smF X (X 66) (X 63) (X 1 0).toNat), sx_A (53)]
      refine sx_putl C p_Mo_171 (by decide) rfl d_Mo_improve_51 ?_
      refine sx_iload_n C 0 d_Mo_improve_54 rfl rfl ?_
      refine sx_ireturn C Rr rfl d_Mo_improve_55 ?_
      first
      | (have hj : (j : Int) = k := by omega
         refine ⟨rfl, _, rfl, Or.inr ⟨hz1, hk0, j, rfl, ?_, by omega, Or.inl hj, fun a p1 p2 p3 p4 => ?_, fun b hb => ?_, ?_⟩⟩
         · rw [sx_up_ne (by decide)]
           have := chM_congr (by omega) fr16 akk h.2.1
           rw [frA 63 (by decide) (by decide)] at this
           exact this
         · rw [sx_up_ne p1, h.1 a p2]; exact frA a p3 p4
         · rw [sx_up_slot hb, h.1 53 (by decide)]; exact congrFun (frA 53 (by decide) (by decide)) b
         · rw [sx_up_at, sx_up_ne (by decide), e1X]; exact smF_congr (by omega) fX16 (fun _ _ => rfl) akX
        )
      | (rcases q30 with ⟨z0, _⟩ | ⟨_, z1, _⟩
         · exfalso; cases z0; omega
         · have hno : noM M (akS M (2 ^ (M 1 0).toNat - 1) 0) (X 63) := noM_congr (by omega) fX16 akX z1
           refine ⟨rfl, _, rfl, Or.inr ⟨hz1, hk0, j, rfl, ?_, by omega, Or.inr (by rw [sx_up_ne (by decide)]; exact hno), fun a p1 p2 p3 p4 => ?_, fun b hb => ?_, ?_⟩⟩
           · rw [sx_up_ne (by decide)]
             have := chM_congr (by omega) fr16 akk h.2.1
             rw [frA 63 (by decide) (by decide)] at this
             exact this
           · rw [sx_up_ne p1, h.1 a p2]; exact frA a p3 p4
           · rw [sx_up_slot hb, h.1 53 (by decide)]; exact congrFun (frA 53 (by decide) (by decide)) b
           · rw [sx_up_at, sx_up_ne (by decide), e1X]; exact smF_congr (by omega) fX16 (fun _ _ => rfl) akX
        )
    · refine sx_aload_n C 1 d_Mo_improve_29 rfl rfl ?_
      refine sx_callV (n := 71) (As := []) (st := []) C (ct_Mo_exchange _ _ _ X hTX hrX hAX hgX) rfl (by decide) rfl (cv_Mo_174 E C _ (by rw [Rr.2.2]; decide)) (Nat.le_of_ble_eq_true rfl) d_Mo_improve_30 (by rw [Rr.2.2]; decide) (by decide) rfl rfl rfl (fun r30 G30 X30 hpo _ => ?_)
      obtain ⟨e1, f30, q30⟩ := hpo
      rw [e1]
      obtain ⟨b30, hb30, hc30⟩ : ∃ b30 : Int, r30 = some (sx_I b30) ∧ (b30 = 0 ∨ b30 = 1) := by rcases q30 with ⟨z0, -⟩ | ⟨z0, -⟩; exact ⟨1, z0, Or.inr rfl⟩; exact ⟨0, z0, Or.inl rfl⟩
      subst hb30
      show sx_X SC E (0, 0) GL X30 33 [(2, sx_I (((j : Nat) : Int))), (0, sx_A (53)), (1, sx_I (k))] [sx_I (b30)]
      refine sx_if_eq C 42 ⟨by omega, by omega⟩ d_Mo_improve_33 (by decide) (fun c33 => ?_) (fun c33 => ?_)
      · have eX : X30 = X := by rcases q30 with ⟨z0, _⟩ | ⟨_, _, z1⟩; (exfalso; cases z0; omega); exact z1
        rw [eX]
        refine sx_aload_n C 1 d_Mo_improve_42 rfl rfl ?_
        refine sx_aload_n C 1 d_Mo_improve_43 rfl rfl ?_
        refine sx_aload_n C 1 d_Mo_improve_44 rfl rfl ?_
        refine sx_getr C f_Mo_44 63 (by decide) rfl rfl d_Mo_improve_45 ?_
        refine sx_callV (n := 71) (As := [sx_A (63)]) (st := [sx_A (53)]) C (ct_Mo_sumOf _ _ _ X hTX hrX 63 (by decide) rfl (fun e he => by have := hgX e he; rw [e1X] at this; omega)) rfl (by decide) rfl (cv_Mo_132 E C _ (by rw [Rr.2.2]; decide)) (Nat.le_of_ble_eq_true rfl) d_Mo_improve_48 (by rw [Rr.2.2]; decide) (by decide) rfl rfl rfl (fun r48 G48 M48 hpo _ => ?_)
        obtain ⟨ee1, ee2, rfl⟩ := hpo
        rw [ee1, ee2]
        show sx_X SC E (0, 0) GL X 51 [(2, sx_I (((j : Nat) : Int))), (0, sx_A (53)), (1, sx_I (k))] [sx_J (smF X (X 66) (X 63) (X 1 0).toNat), sx_A (53)]
        refine sx_putl C p_Mo_171 (by decide) rfl d_Mo_improve_51 ?_
        refine sx_iload_n C 0 d_Mo_improve_54 rfl rfl ?_
        refine sx_ireturn C Rr rfl d_Mo_improve_55 ?_
        first
        | (have hj : (j : Int) = k := by omega
           refine ⟨rfl, _, rfl, Or.inr ⟨hz1, hk0, j, rfl, ?_, by omega, Or.inl hj, fun a p1 p2 p3 p4 => ?_, fun b hb => ?_, ?_⟩⟩
           · rw [sx_up_ne (by decide)]
             have := chM_congr (by omega) fr16 akk h.2.1
             rw [frA 63 (by decide) (by decide)] at this
             exact this
           · rw [sx_up_ne p1, h.1 a p2]; exact frA a p3 p4
           · rw [sx_up_slot hb, h.1 53 (by decide)]; exact congrFun (frA 53 (by decide) (by decide)) b
           · rw [sx_up_at, sx_up_ne (by decide), e1X]; exact smF_congr (by omega) fX16 (fun _ _ => rfl) akX
          )
        | (rcases q30 with ⟨z0, _⟩ | ⟨_, z1, _⟩
           · exfalso; cases z0; omega
           · have hno : noM M (akS M (2 ^ (M 1 0).toNat - 1) 0) (X 63) := noM_congr (by omega) fX16 akX z1
             refine ⟨rfl, _, rfl, Or.inr ⟨hz1, hk0, j, rfl, ?_, by omega, Or.inr (by rw [sx_up_ne (by decide)]; exact hno), fun a p1 p2 p3 p4 => ?_, fun b hb => ?_, ?_⟩⟩
             · rw [sx_up_ne (by decide)]
               have := chM_congr (by omega) fr16 akk h.2.1
               rw [frA 63 (by decide) (by decide)] at this
               exact this
             · rw [sx_up_ne p1, h.1 a p2]; exact frA a p3 p4
             · rw [sx_up_slot hb, h.1 53 (by decide)]; exact congrFun (frA 53 (by decide) (by decide)) b
             · rw [sx_up_at, sx_up_ne (by decide), e1X]; exact smF_congr (by omega) fX16 (fun _ _ => rfl) akX
          )
      · refine sx_iinc (lv' := [(2, sx_I (((j + 1 : Nat) : Int))), (0, sx_A (53)), (1, sx_I (k))]) C 0 d_Mo_improve_36 rfl (by rw [hnL]; decide) rfl ?_
        refine sx_goto C 24 d_Mo_improve_39 (by decide) ?_
        refine sx_sub [0, 1, 2] rfl ?_
        rcases q30 with ⟨_, d, p, z1, z2⟩ | ⟨z0, _⟩
        · refine ih (j + 1) X30 (by omega) ⟨fun a ha => (f30 a ha).trans (h.1 a ha), ⟨X 63, h.2.1, d, p, mx1_congr (by rw [fr16 1 (by decide)]; omega) (fun a ha => frX a (by omega)) (fun e he => by rw [h.1 66 (by decide)]) z1, z2⟩, ?_⟩ (by omega)
          rw [z2]
          exact mx_bd (M := X) (ak := X 66) (by have := z1.2.1; rw [e1X] at this; rw [fr16 1 (by decide)]; omega) h.2.2
        · exfalso; cases z0; omega
set_option maxRecDepth 100000 in
set_option maxHeartbeats 4000000 in
theorem ct_Mo_improve (l : Launch) (D : va_G) (tc : Nat → ClassId) (M : sx_M0) (hT : tw M) (hr : rT M) (hz : M 53 12 = 0 ∨ M 53 12 = 1) (hg : M 53 12 = 1 → ∀ d, d < (M 1 0).toNat → -1 ≤ M 63 d ∧ M 63 d < M 1 1) (k : Int) (hk : sx_r32 k) : sx_Met SC l D tc y_Mo_improve w_Mo_improve (rmk 4 160) [sx_A (53), sx_I (k)] GL M (fun r G' M' => G' = GL ∧ ∃ q : Int, r = some (sx_I q) ∧ miP M M' k q) := by
  refine sx_enter (by decide) rfl (Nat.le_of_ble_eq_true rfl) (Ts := g_tbl) (fun _ h => List.mem_cons_of_mem _ h) (fun E C Rr hnm hnL => ?_)
  have g0 := hT.1
  have hp7 := pow_7 (M 1 0).toNat (by omega)
  refine sx_aload_n C 0 d_Mo_improve_0 rfl rfl ?_
  refine sx_getz C f_Mo_161 (by decide) rfl d_Mo_improve_1 ?_
  refine sx_if_eq C 11 ⟨by omega, by omega⟩ d_Mo_improve_4 (by decide) (fun c4 => ?_) (fun c4 => ?_)
  · refine sx_iconst C d_Mo_improve_11 ?_
    refine sx_ireturn C Rr rfl d_Mo_improve_12 ?_
    exact ⟨rfl, -1, rfl, Or.inl ⟨by omega, rfl, rfl⟩⟩
  · refine sx_iload_n C 1 d_Mo_improve_7 rfl rfl ?_
    refine sx_if_ge C 13 ⟨by omega, by omega⟩ d_Mo_improve_8 (by decide) (fun c8 => ?_) (fun c8 => ?_)
    · refine sx_aload_n C 0 d_Mo_improve_13 rfl rfl ?_
      refine sx_aload_n C 0 d_Mo_improve_14 rfl rfl ?_
      refine sx_callV (n := 71) (As := []) (st := [sx_A (53)]) C (ct_Mo_all _ _ _ M hT hr) rfl (by decide) rfl (cv_Mo_143 E C _ (by rw [Rr.2.2]; decide)) (Nat.le_of_ble_eq_true rfl) d_Mo_improve_15 (by rw [Rr.2.2]; decide) (by decide) rfl rfl rfl (fun r15 G15 M15 hpo _ => ?_)
      obtain ⟨ee1, ee2, rfl⟩ := hpo
      rw [ee1, ee2]
      show sx_X SC E (0, 0) GL M 18 [(0, sx_A (53)), (1, sx_I (k))] [sx_I ((((2 ^ (M 1 0).toNat - 1) : Nat) : Int)), sx_A (53)]
      refine sx_iconst C d_Mo_improve_18 ?_
      refine sx_callV (n := 71) (As := [sx_I ((((2 ^ (M 1 0).toNat - 1) : Nat) : Int)), sx_I (0)]) (st := []) C (ct_Mo_askFor _ _ _ M hT hr (2 ^ (M 1 0).toNat - 1) 0 (by omega) (by decide)) rfl (by decide) rfl (cv_Mo_153 E C _ (by rw [Rr.2.2]; decide)) (Nat.le_of_ble_eq_true rfl) d_Mo_improve_19 (by rw [Rr.2.2]; decide) (by decide) rfl rfl rfl (fun r19 G19 M19 hpo _ => ?_)
      obtain ⟨ee1, ee2, rfl⟩ := hpo
      rw [ee1, ee2]
      show sx_X SC E (0, 0) GL (akI M (2 ^ (M 1 0).toNat - 1) 0 6) 22 [(0, sx_A (53)), (1, sx_I (k))] []
      refine sx_iconst C d_Mo_improve_22 ?_
      refine sx_istore_n (lv' := [(2, sx_I (0)), (0, sx_A (53)), (1, sx_I (k))]) C d_Mo_improve_23 rfl (by rw [hnL]; decide) rfl ?_
      refine sx_sub [0, 1, 2] rfl ?_
      exact lp_Mo_improve M hT hr hz hg k hk (by omega) (by omega) C Rr hnL _ 0 (akI M (2 ^ (M 1 0).toNat - 1) 0 6) (Nat.lt_succ_self _) ⟨fun _ _ => rfl, rfl, fun d hd => by rw [ak_ne (a := 63) (by decide) (by decide), ak_ne (a := 1) (by decide) (by decide)]; rw [ak_ne (a := 1) (by decide) (by decide)] at hd; exact hg (by omega) d hd⟩ (by omega)
    · refine sx_iconst C d_Mo_improve_11 ?_
      refine sx_ireturn C Rr rfl d_Mo_improve_12 ?_
      exact ⟨rfl, -1, rfl, Or.inl ⟨by omega, rfl, rfl⟩⟩
