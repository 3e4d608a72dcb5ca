def gmP (M : sx_M0) (ak : Nat → Int) (R : (Nat → Int) → Prop) (s : Nat) (v : Int) : Prop := (v = 1000000000000 ∧ ∀ g, PN M ak (-1) g → R g → psF g (M 1 0).toNat ≠ s) ∨ (∃ g0, PN M ak (-1) g0 ∧ R g0 ∧ psF g0 (M 1 0).toNat = s ∧ v = smF M ak g0 (M 1 0).toNat ∧ (0 ≤ v ∧ v ≤ 9000000) ∧ ∀ g, PN M ak (-1) g → R g → psF g (M 1 0).toNat = s → v ≤ smF M ak g (M 1 0).toNat)
theorem gm_bd {M : sx_M0} {ak : Nat → Int} {R : (Nat → Int) → Prop} {s : Nat} {v : Int} (h : gmP M ak R s v) : 0 ≤ v ∧ v ≤ 1000000000000 := by
  rcases h with ⟨h1, _⟩ | ⟨_, _, _, _, _, h1, _⟩
  · omega
  · omega
theorem gm_mono {M : sx_M0} {ak : Nat → Int} {R R' : (Nat → Int) → Prop} {s : Nat} {v : Int} (hR : ∀ g, PN M ak (-1) g → psF g (M 1 0).toNat = s → (R g ↔ R' g)) (h : gmP M ak R s v) : gmP M ak R' s v := by
  rcases h with ⟨h1, h2⟩ | ⟨g0, h1, h2, h3, h4, h5, h6⟩
  · exact Or.inl ⟨h1, fun g hg hl e => h2 g hg ((hR g hg e).mpr hl) e⟩
  · exact Or.inr ⟨g0, h1, (hR g0 h1 h3).mp h2, h3, h4, h5, fun g hg hl e => h6 g hg ((hR g hg e).mpr hl) e⟩
theorem lx_or {n : Nat} {g t : Nat → Int} (h : lx n 0 g t) : lxs n 0 g t ∨ ∀ d, d < n → g d = t d := by
  by_cases e : lxs n 0 g t
  · exact Or.inl e
  · exact Or.inr (fun d hd => lx_eq h e d (Nat.zero_le d) (by omega))
theorem gm_skip {M : sx_M0} {ak t : Nat → Int} {s : Nat} {v : Int} (h6 : (M 1 0).toNat ≤ 6) (hn : ¬ FP M ak t (-1) ∨ psF t (M 1 0).toNat ≠ s) (h : gmP M ak (fun g => lxs (M 1 0).toNat 0 g t) s v) : gmP M ak (fun g => lx (M 1 0).toNat 0 g t) s v := by
  refine gm_mono (fun g hg e => ⟨lxs_le, fun hl => ?_⟩) h
  rcases lx_or hl with y | y
  · exact y
  · exfalso
    rcases hn with hn | hn
    · exact hn ((FP_congr h6 (fun _ _ => rfl) y (fun _ _ => rfl)).mp hg.2.2)
    · exact hn (by rw [← psF_congr y]; exact e)
theorem gm_hit {M : sx_M0} {ak t : Nat → Int} {v : Int} (hT : tw M) (hA : ∀ d, d < 6 → 0 ≤ ak d ∧ ak d ≤ 150) (ht : tSh M ak t) (hp : FP M ak t (-1)) (h : gmP M ak (fun g => lxs (M 1 0).toNat 0 g t) (psF t (M 1 0).toNat) v) : gmP M ak (fun g => lx (M 1 0).toNat 0 g t) (psF t (M 1 0).toNat) (if smF M ak t (M 1 0).toNat < v then smF M ak t (M 1 0).toNat else v) := by
  have g0 := hT.1
  have g1 := hT.2.1
  have n0 := smF_nn hT hA (fun d hd => (ht.1 d hd).2.2) hp (n := (M 1 0).toNat) (Nat.le_refl _)
  have n1 := smF_bd hT (g := t) hA (n := (M 1 0).toNat) (by omega) (fun d hd => by have := (ht.1 d hd).2.2; omega)
  have es : ∀ g, (∀ d, d < (M 1 0).toNat → g d = t d) → smF M ak g (M 1 0).toNat = smF M ak t (M 1 0).toNat := fun g y => smF_congr (by omega) (fun _ _ => rfl) y (fun _ _ => rfl)
  have pt : PN M ak (-1) t := ⟨fun d hd => (ht.1 d hd).2, ht.2, hp⟩
  by_cases c : smF M ak t (M 1 0).toNat < v
  · rw [if_pos c]
    refine Or.inr ⟨t, pt, lx_refl _ _ _, rfl, rfl, ⟨n0, by omega⟩, fun g hg hl e => ?_⟩
    rcases lx_or hl with y | y
    · rcases h with ⟨h1, h2⟩ | ⟨g1, h1, h2, h3, h4, h5, h6⟩
      · exact absurd e (h2 g hg y)
      · have := h6 g hg y e
        omega
    · rw [es g y]; exact Int.le_refl _
  · rw [if_neg c]
    rcases h with ⟨h1, h2⟩ | ⟨g1, h1, h2, h3, h4, h5, h6⟩
    · exfalso; omega
    · refine Or.inr ⟨g1, h1, lxs_le h2, h3, h4, h5, fun g hg hl e => ?_⟩
      rcases lx_or hl with y | y
      · exact h6 g hg y e
      · rw [es g y]; omega
/-- what set o serves for, as the reference keeps it -/
def sdP (M : sx_M0) (ak : Nat → Int) (o : Nat) (x : Int) : Prop := (x = 1000000000000 ∧ ¬ (o < 2 ^ (M 1 1).toNat ∧ moS M (-1) o 5 ∧ ∃ g, PN M ak (-1) g ∧ psF g (M 1 0).toNat &&& o = psF g (M 1 0).toNat)) ∨ (o < 2 ^ (M 1 1).toNat ∧ moS M (-1) o 5 ∧ ∃ g0, PN M ak (-1) g0 ∧ psF g0 (M 1 0).toNat &&& o = psF g0 (M 1 0).toNat ∧ x = smF M ak g0 (M 1 0).toNat ∧ (0 ≤ x ∧ x ≤ 9000000) ∧ ∀ g, PN M ak (-1) g → psF g (M 1 0).toNat &&& o = psF g (M 1 0).toNat → x ≤ smF M ak g (M 1 0).toNat)
def mnP (G : Nat → Int) (o k : Nat) (v : Int) : Prop := v ≤ 1000000000000 ∧ (∀ s, s < k → s &&& o = s → v ≤ G s) ∧ (v = 1000000000000 ∨ ∃ s, s < k ∧ s &&& o = s ∧ v = G s)
theorem mn_no {G : Nat → Int} {o k : Nat} {v : Int} (hk : k &&& o ≠ k ∨ v ≤ G k) (h : mnP G o k v) : mnP G o (k + 1) v := by
  refine ⟨h.1, fun s hs e => ?_, ?_⟩
  · by_cases q : s = k
    · subst q
      rcases hk with hk | hk
      · exact absurd e hk
      · exact hk
    · exact h.2.1 s (by omega) e
  · rcases h.2.2 with y | ⟨s, y1, y2, y3⟩
    · exact Or.inl y
    · exact Or.inr ⟨s, by omega, y2, y3⟩
theorem mn_yes {G : Nat → Int} {o k : Nat} {v : Int} (hk : k &&& o = k) (hv : G k < v) (h : mnP G o k v) : mnP G o (k + 1) (G k) := by
  refine ⟨by have := h.1; omega, fun s hs e => ?_, Or.inr ⟨k, Nat.lt_succ_self k, hk, rfl⟩⟩
  by_cases q : s = k
  · subst q; exact Int.le_refl _
  · have := h.2.1 s (by omega) e
    omega
theorem sd_of {M : sx_M0} (hT : tw M) {ak G : Nat → Int} {o : Nat} {v : Int} (ho : o < 2 ^ (M 1 1).toNat) (hm : moS M (-1) o 5) (hG : ∀ s, s < 32 → gmP M ak (fun _ => True) s (G s)) (h : mnP G o 32 v) : sdP M ak o v := by
  have g1 := hT.2.1
  have pl : ∀ g, PN M ak (-1) g → psF g (M 1 0).toNat < 32 := fun g hg => ps_lt (fun d hd => by have := (hg.1 d hd).2; omega)
  have key : ∀ g, PN M ak (-1) g → psF g (M 1 0).toNat &&& o = psF g (M 1 0).toNat → v ≤ smF M ak g (M 1 0).toNat ∧ v ≤ 9000000 := fun g hg e => by
    have q1 := h.2.1 _ (pl g hg) e
    rcases hG _ (pl g hg) with ⟨y1, y2⟩ | ⟨g0, y1, y2, y3, y4, y5, y6⟩
    · exact absurd rfl (y2 g hg trivial)
    · have := y6 g hg trivial rfl
      exact ⟨by omega, by omega⟩
  rcases h.2.2 with y | ⟨s, y1, y2, y3⟩
  · refine Or.inl ⟨y, fun z => ?_⟩
    obtain ⟨_, _, g, z1, z2⟩ := z
    have := (key g z1 z2).2
    omega
  · rcases hG s y1 with ⟨w1, w2⟩ | ⟨g0, w1, w2, w3, w4, w5, w6⟩
    · refine Or.inl ⟨by omega, fun z => ?_⟩
      obtain ⟨_, _, g, z1, z2⟩ := z
      have := (key g z1 z2).2
      omega
    · exact Or.inr ⟨ho, hm, g0, w1, by rw [w3]; exact y2, by omega, by omega, fun g hg e => (key g hg e).1⟩
theorem sd_bd {M : sx_M0} {ak : Nat → Int} {o : Nat} {x : Int} (h : sdP M ak o x) : 0 ≤ x ∧ x ≤ 1000000000000 := by
  rcases h with ⟨h, _⟩ | ⟨_, _, _, _, _, _, h, _⟩
  · omega
  · omega
theorem sdP_congr {M M' : sx_M0} (hT : tw M) {ak ak' : Nat → Int} (hM : ∀ a, a ≤ 16 → M' a = M a) (h2 : ∀ d, d < (M 1 0).toNat → ak d = ak' d) {o : Nat} {x : Int} : sdP M' ak o x → sdP M ak' o x := by
  have g0 := hT.1
  have e : ∀ g, PN M' ak (-1) g ↔ PN M ak' (-1) g := fun g => PN_congr (by omega) hM h2
  have es : ∀ g, smF M' ak g (M 1 0).toNat = smF M ak' g (M 1 0).toNat := fun g => smF_congr (by omega) hM (fun _ _ => rfl) h2
  intro h
  unfold sdP at h ⊢
  rw [hM 1 (by decide), mo_fr hM] at h
  rcases h with ⟨h1, h3⟩ | ⟨h1, h3, g0, h4, h5, h6, h7, h8⟩
  · exact Or.inl ⟨h1, fun ⟨z1, z2, g, z3, z4⟩ => h3 ⟨z1, z2, g, (e g).mpr z3, z4⟩⟩
  · exact Or.inr ⟨h1, h3, g0, (e g0).mp h4, h5, by rw [← es]; exact h6, h7, fun g hg he => by have := h8 g ((e g).mpr hg) he; rw [es] at this; exact this⟩
def fl1 (M : sx_M0) (y n : Nat) : sx_M0 := fun a b => if a = 68 ∧ 32 * y ≤ b ∧ b < 32 * y + n then 1000000000000 else M a b
theorem fl1_0 {M : sx_M0} {y : Nat} : fl1 M y 0 = M := by
  funext a b
  unfold fl1
  rw [if_neg (by omega)]
theorem fl1_ne {M : sx_M0} {y n a : Nat} (h : a ≠ 68) : fl1 M y n a = M a := by
  funext b
  unfold fl1
  rw [if_neg (by omega)]
theorem fl1_up {M : sx_M0} {y n : Nat} : sx_up (fl1 M y n) 68 (32 * y + n) 1000000000000 = fl1 M y (n + 1) := by
  funext a b
  unfold sx_up fl1
  by_cases h : a = 68 ∧ b = 32 * y + n
  · rw [if_pos h, if_pos (by omega)]
  · rw [if_neg h]
    by_cases h2 : a = 68 ∧ 32 * y ≤ b ∧ b < 32 * y + n
    · rw [if_pos h2, if_pos (by omega)]
    · rw [if_neg h2, if_neg (by omega)]
theorem fl1_at {M : sx_M0} {y n s : Nat} (h : s < n) : fl1 M y n 68 (32 * y + s) = 1000000000000 := by
  unfold fl1
  rw [if_pos (by omega)]
theorem and_32 : ∀ s, s < 32 → ∀ o, o < 32 → sx_and ((s : Nat) : Int) ((o : Nat) : Int) = ((s &&& o : Nat) : Int) := by decide +kernel
/-- the trials before (or up to) the one at hand have been looked at -/
def rkI (M0 M : sx_M0) (y : Nat) (R : (Nat → Int) → Prop) : Prop := (∀ a, a ≠ 65 → a ≠ 68 → M a = M0 a) ∧ tSh M0 (M0 66) (M 65) ∧ (∀ s, s < 32 → gmP M0 (M0 66) R s (M 68 (32 * y + s)))
set_option maxRecDepth 100000 in
set_option maxHeartbeats 4000000 in
theorem lp1_reckon  (M : sx_M0) (y : Nat) (hy : y ≤ 5) {E : sx_E} (C : sx_C SC g_tbl "SiteChoiceModel" c_Mo_reckon E) (hnL : sx_nL E = 8) (hk : sx_X SC E (0, 0) GL (fl1 M y 32) 28 [(0, sx_A (53)), (1, sx_I (((y : Nat) : Int)))] []) : ∀ (nF : Nat) (s : Nat), 32 - s < nF → s ≤ 32 → sx_X SC E (0, 0) GL (fl1 M y s) 2 [(2, sx_I (((s : Nat) : Int))), (0, sx_A (53)), (1, sx_I (((y : Nat) : Int)))] [] := by
  intro nF
  induction nF with
  | zero => intro s h; omega
  | succ nF ih =>
    intro s hn h1
    refine sx_iload_n C 0 d_Mo_reckon_2 rfl rfl ?_
    refine sx_bipush C d_Mo_reckon_3 (by decide) ?_
    refine sx_icmp_ge C 28 ⟨by omega, by omega⟩ ⟨by omega, by omega⟩ d_Mo_reckon_5 (by decide) (fun c5 => ?_) (fun c5 => ?_)
    · refine sx_sub [1, 2] rfl ?_
      rw [show s = 32 by omega]
      exact hk
    · refine sx_aload_n C 1 d_Mo_reckon_8 rfl rfl ?_
      refine sx_getr C f_Mo_60 68 (by decide) rfl rfl d_Mo_reckon_9 ?_
      refine sx_bipush C d_Mo_reckon_12 (by decide) ?_
      refine sx_iload_n C 2 d_Mo_reckon_14 rfl rfl ?_
      refine sx_imul C d_Mo_reckon_15 ?_
      refine sx_iload_n C 0 d_Mo_reckon_16 rfl rfl ?_
      refine sx_iadd C d_Mo_reckon_17 ?_
      refine sx_ldc2 (v := (1000000000000)) C (1000000000000) (tb_ 758 (by decide +kernel) rfl) (by decide) d_Mo_reckon_18 ?_
      refine sx_lastore C (32 * y + s) (by decide) rfl rfl (by omega) (by omega) (by decide) d_Mo_reckon_21 ?_
      refine sx_iinc (lv' := [(2, sx_I (((s + 1 : Nat) : Int))), (0, sx_A (53)), (1, sx_I (((y : Nat) : Int)))]) C 0 d_Mo_reckon_22 rfl (by rw [hnL]; decide) rfl ?_
      refine sx_goto C 2 d_Mo_reckon_25 (by decide) ?_
      rw [fl1_up]
      refine sx_sub [0, 1, 2] rfl ?_
      exact ih (s + 1) (by omega) (by omega)
def rkI0 (M0 M : sx_M0) (y : Nat) : Prop := (∀ a, a ≠ 65 → a ≠ 68 → M a = M0 a) ∧ (∀ s, s < 32 → gmP M0 (M0 66) (fun _ => True) s (M 68 (32 * y + s)))
set_option maxRecDepth 100000 in
set_option maxHeartbeats 4000000 in
theorem s136_reckon (M0 : sx_M0) (hT : tw M0) (hr : rT M0) (hA : ∀ d, d < 6 → 0 ≤ M0 66 d ∧ M0 66 d ≤ 150) (y : Nat) (hy : y ≤ 5) {E : sx_E} (C : sx_C SC g_tbl "SiteChoiceModel" c_Mo_reckon E) {Po : Option sx_V → sx_G → sx_M0 → Prop} (Rr : sx_Ret SC none (rmk 3 120) Po E) (hnL : sx_nL E = 8) (M : sx_M0) (h : rkI M0 M y (fun g => lx (M0 1 0).toNat 0 g (M 65))) (hih : ∀ X : sx_M0, rkI M0 X y (fun g => lxs (M0 1 0).toNat 0 g (X 65)) → nuF (M 65) (M0 1 0).toNat 0 < nuF (X 65) (M0 1 0).toNat 0 → sx_X SC E (0, 0) GL X 61 [(0, sx_A (53)), (1, sx_I (((y : Nat) : Int)))] []) (hk : ∀ X : sx_M0, rkI0 M0 X y → sx_X SC E (0, 0) GL X 144 [(0, sx_A (53)), (1, sx_I (((y : Nat) : Int)))] []) : sx_X SC E (0, 0) GL M 136 [(0, sx_A (53)), (1, sx_I (((y : Nat) : Int)))] [] := by
  have g0 := hT.1
  have g1 := hT.2.1
  have fr : ∀ a, a ≤ 62 → M a = M0 a := fun a ha => h.1 a (by omega) (by omega)
  have hTM : tw M := tw_fr (fun a ha => fr a (by omega)) hT
  have hrM : rT M := rT_fr fr hT hr
  have e1 : M 1 = M0 1 := fr 1 (by decide)
  have hgM : ∀ d, d < (M 1 0).toNat → -1 ≤ M 65 d ∧ M 65 d < M 1 1 := fun d hd => by rw [e1] at hd ⊢; exact (h.2.1.1 d hd).2
  have hg4 : ∀ d, d < (M 1 0).toNat → -1 ≤ M 65 d ∧ M 65 d ≤ 4 := fun d hd => by have := hgM d hd; rw [e1] at this; omega
  refine sx_aload_n C 0 d_Mo_reckon_136 rfl rfl ?_
  refine sx_callV (n := 71) (As := []) (st := []) C (ct_Mo_next _ _ _ M hTM hrM hgM) rfl (by decide) rfl (cv_Mo_136 E C _ (by rw [Rr.2.2]; decide)) (Nat.le_of_ble_eq_true rfl) d_Mo_reckon_137 (by rw [Rr.2.2]; decide) (by decide) rfl rfl rfl (fun r137 G137 M137 hpo _ => ?_)
  obtain ⟨ee, f99, q99⟩ := hpo
  rw [ee]
  obtain ⟨b99, hb99, hc99⟩ : ∃ b99 : Int, r137 = some (sx_I b99) ∧ (b99 = 0 ∨ b99 = 1) := by rcases q99 with ⟨y0, -⟩ | ⟨y0, -⟩; exact ⟨1, y0, Or.inr rfl⟩; exact ⟨0, y0, Or.inl rfl⟩
  subst hb99
  show sx_X SC E (0, 0) GL M137 140 [(0, sx_A (53)), (1, sx_I (((y : Nat) : Int)))] [sx_I (b99)]
  refine sx_istore_n (lv' := [(2, sx_I (b99)), (0, sx_A (53)), (1, sx_I (((y : Nat) : Int)))]) C d_Mo_reckon_140 rfl (by rw [hnL]; decide) rfl ?_
  refine sx_goto C 57 d_Mo_reckon_141 (by decide) ?_
  refine sx_iload_n C 0 d_Mo_reckon_57 rfl rfl ?_
  refine sx_if_eq C 144 ⟨by omega, by omega⟩ d_Mo_reckon_58 (by decide) (fun c58 => ?_) (fun c58 => ?_)
  · refine sx_sub [1, 2] rfl ?_
    rcases q99 with ⟨y0, _⟩ | ⟨_, y1⟩
    · exfalso; cases y0; omega
    · rw [e1] at y1
      refine hk M137 ⟨fun a p1 p2 => (f99 a p1).trans (h.1 a p1 p2), fun s hs => ?_⟩
      rw [f99 68 (by decide)]
      exact gm_mono (fun g hg _ => ⟨fun _ => trivial, fun _ => lx_max y1 (pn_sh h.2.1 hg) _ 0 (by omega)⟩) (h.2.2 s hs)
  · refine sx_sub [1, 2] rfl ?_
    rcases q99 with ⟨_, d, y1⟩ | ⟨y0, _⟩
    · rw [e1] at y1
      refine hih M137 ⟨fun a p1 p2 => (f99 a p1).trans (h.1 a p1 p2), ts_nx h.2.1 y1, fun s hs => ?_⟩ ?_
      · rw [f99 68 (by decide)]
        exact gm_mono (fun g hg _ => (nx_lex y1 (pn_sh h.2.1 hg) _ 0 (by omega) (Nat.zero_le _)).symm) (h.2.2 s hs)
      · exact nu_mono _ 0 (fun e _ he => by have := (h.2.1.1 e (by omega)).2; omega) ((nx_lex y1 (fun e he => by have := h.2.1.1 e he; exact ⟨fun y => by omega, fun _ => rfl⟩) _ 0 (by omega) (Nat.zero_le _)).mpr (lx_refl _ _ _))
    · exfalso; cases y0; omega
set_option maxRecDepth 100000 in
set_option maxHeartbeats 4000000 in
theorem lp2_reckon (M0 : sx_M0) (hT : tw M0) (hr : rT M0) (hA : ∀ d, d < 6 → 0 ≤ M0 66 d ∧ M0 66 d ≤ 150) (y : Nat) (hy : y ≤ 5) {E : sx_E} (C : sx_C SC g_tbl "SiteChoiceModel" c_Mo_reckon E) {Po : Option sx_V → sx_G → sx_M0 → Prop} (Rr : sx_Ret SC none (rmk 3 120) Po E) (hnL : sx_nL E = 8) (hk : ∀ X : sx_M0, rkI0 M0 X y → sx_X SC E (0, 0) GL X 144 [(0, sx_A (53)), (1, sx_I (((y : Nat) : Int)))] []) : ∀ (nF : Nat) (M : sx_M0), 46656 - nuF (M 65) (M0 1 0).toNat 0 < nF → rkI M0 M y (fun g => lxs (M0 1 0).toNat 0 g (M 65)) → sx_X SC E (0, 0) GL M 61 [(0, sx_A (53)), (1, sx_I (((y : Nat) : Int)))] [] := by
  intro nF
  induction nF with
  | zero => intro M h; omega
  | succ nF ih =>
    intro M hn h
    have g0 := hT.1
    have g1 := hT.2.1
    have fr : ∀ a, a ≤ 62 → M a = M0 a := fun a ha => h.1 a (by omega) (by omega)
    have hTM : tw M := tw_fr (fun a ha => fr a (by omega)) hT
    have hrM : rT M := rT_fr fr hT hr
    have e1 : M 1 = M0 1 := fr 1 (by decide)
    have hgM : ∀ d, d < (M 1 0).toNat → -1 ≤ M 65 d ∧ M 65 d < M 1 1 := fun d hd => by rw [e1] at hd ⊢; exact (h.2.1.1 d hd).2
    have hg4 : ∀ d, d < (M 1 0).toNat → -1 ≤ M 65 d ∧ M 65 d ≤ 4 := fun d hd => by have := hgM d hd; rw [e1] at this; omega
    have e66 : M 66 = M0 66 := h.1 66 (by decide) (by decide)
    have hAM : ∀ d, d < 6 → 0 ≤ M 66 d ∧ M 66 d ≤ 150 := fun d hd => by rw [e66]; exact hA d hd
    have sb := smF_bd hT (g := M 65) hA (n := (M0 1 0).toNat) (by omega) (fun d hd => by have := (h.2.1.1 d hd).2; omega)
    have hih : ∀ X : sx_M0, rkI M0 X y (fun g => lxs (M0 1 0).toNat 0 g (X 65)) → nuF (M 65) (M0 1 0).toNat 0 < nuF (X 65) (M0 1 0).toNat 0 → sx_X SC E (0, 0) GL X 61 [(0, sx_A (53)), (1, sx_I (((y : Nat) : Int)))] [] := fun X hX hlt => by
      have := nu_lt (t := X 65) (M0 1 0).toNat 0 (fun e _ he => by have := (hX.2.1.1 e (by omega)).2; omega)
      have := pw6 (M0 1 0).toNat (by omega)
      exact ih X (by omega) hX
    refine sx_aload_n C 0 d_Mo_reckon_61 rfl rfl ?_
    refine sx_aload_n C 0 d_Mo_reckon_62 rfl rfl ?_
    refine sx_getr C f_Mo_51 65 (by decide) rfl rfl d_Mo_reckon_63 ?_
    refine sx_callV (n := 71) (As := [sx_A (65)]) (st := []) C (ct_Mo_placesOf _ _ _ M hTM hrM 65 (by decide) rfl hg4) rfl (by decide) rfl (cv_Mo_118 E C _ (by rw [Rr.2.2]; decide)) (Nat.le_of_ble_eq_true rfl) d_Mo_reckon_66 (by rw [Rr.2.2]; decide) (by decide) rfl rfl rfl (fun r66 G66 M66 hpo _ => ?_)
    obtain ⟨ee1, ee2, rfl⟩ := hpo
    rw [ee1, ee2, e1]
    have hps : psF (M 65) (M0 1 0).toNat < 32 := ps_lt (fun d hd => by have := (h.2.1.1 d hd).2; omega)
    show sx_X SC E (0, 0) GL M 69 [(0, sx_A (53)), (1, sx_I (((y : Nat) : Int)))] [sx_I ((((psF (M 65) (M0 1 0).toNat) : Nat) : Int))]
    refine sx_istore_n (lv' := [(3, sx_I ((((psF (M 65) (M0 1 0).toNat) : Nat) : Int))), (0, sx_A (53)), (1, sx_I (((y : Nat) : Int)))]) C d_Mo_reckon_69 rfl (by rw [hnL]; decide) rfl ?_
    refine sx_aload_n C 1 d_Mo_reckon_70 rfl rfl ?_
    refine sx_aload_n C 1 d_Mo_reckon_71 rfl rfl ?_
    refine sx_getr C f_Mo_51 65 (by decide) rfl rfl d_Mo_reckon_72 ?_
    refine sx_iconst C d_Mo_reckon_75 ?_
    refine sx_callV (n := 71) (As := [sx_A (65), sx_I (-1)]) (st := []) C (ct_Mo_isPlan _ _ _ M hTM hrM hAM 65 (by decide) rfl hgM (-1) ⟨by decide, by decide⟩) rfl (by decide) rfl (cv_Mo_129 E C _ (by rw [Rr.2.2]; decide)) (Nat.le_of_ble_eq_true rfl) d_Mo_reckon_76 (by rw [Rr.2.2]; decide) (by decide) rfl rfl rfl (fun r76 G76 M76 hpo _ => ?_)
    obtain ⟨ee1, ee2, b76, rfl, hb76⟩ := hpo
    rw [ee1, ee2]
    rw [e66, FP_congr (by omega) (fun a ha => fr a (by omega)) (fun _ _ => rfl) (fun _ _ => rfl)] at hb76
    show sx_X SC E (0, 0) GL M 79 [(3, sx_I ((((psF (M 65) (M0 1 0).toNat) : Nat) : Int))), (0, sx_A (53)), (1, sx_I (((y : Nat) : Int)))] [sx_I (b76)]
    refine sx_if_eq C 136 ⟨by omega, by omega⟩ d_Mo_reckon_79 (by decide) (fun c79 => ?_) (fun c79 => ?_)
    · refine sx_sub [1, 2] rfl ?_
      exact s136_reckon M0 hT hr hA y hy C Rr hnL M ⟨h.1, h.2.1, fun s hs => gm_skip (by omega) (Or.inl (by rcases hb76 with ⟨z1, z2⟩ | ⟨z1, z2⟩; (exfalso; omega); exact z2)) (h.2.2 s hs)⟩ hih hk
    · refine sx_aload_n C 1 d_Mo_reckon_82 rfl rfl ?_
      refine sx_aload_n C 1 d_Mo_reckon_83 rfl rfl ?_
      refine sx_getr C f_Mo_51 65 (by decide) rfl rfl d_Mo_reckon_84 ?_
      refine sx_callV (n := 71) (As := [sx_A (65)]) (st := []) C (ct_Mo_sumOf _ _ _ M hTM hrM 65 (by decide) rfl hg4) rfl (by decide) rfl (cv_Mo_132 E C _ (by rw [Rr.2.2]; decide)) (Nat.le_of_ble_eq_true rfl) d_Mo_reckon_87 (by rw [Rr.2.2]; decide) (by decide) rfl rfl rfl (fun r87 G87 M87 hpo _ => ?_)
      obtain ⟨ee1, ee2, rfl⟩ := hpo
      rw [ee1, ee2]
      rw [e66, e1, smF_congr (M := M0) (by omega) (fun a ha => fr a (by omega)) (fun _ _ => rfl) (fun _ _ => rfl)]
      show sx_X SC E (0, 0) GL M 90 [(3, sx_I ((((psF (M 65) (M0 1 0).toNat) : Nat) : Int))), (0, sx_A (53)), (1, sx_I (((y : Nat) : Int)))] [sx_J (smF M0 (M0 66) (M 65) (M0 1 0).toNat)]
      refine sx_lstore (lv' := [(4, sx_J (smF M0 (M0 66) (M 65) (M0 1 0).toNat)), (3, sx_I ((((psF (M 65) (M0 1 0).toNat) : Nat) : Int))), (0, sx_A (53)), (1, sx_I (((y : Nat) : Int)))]) C d_Mo_reckon_90 (by rw [hnL]; decide) rfl ?_
      have gb := gm_bd (h.2.2 (psF (M 65) (M0 1 0).toNat) hps)
      refine sx_aload_n C 2 d_Mo_reckon_92 rfl rfl ?_
      refine sx_getr C f_Mo_60 68 (by decide) rfl rfl d_Mo_reckon_93 ?_
      refine sx_bipush C d_Mo_reckon_96 (by decide) ?_
      refine sx_iload_n C 3 d_Mo_reckon_98 rfl rfl ?_
      refine sx_imul C d_Mo_reckon_99 ?_
      refine sx_iload_n C 1 d_Mo_reckon_100 rfl rfl ?_
      refine sx_iadd C d_Mo_reckon_101 ?_
      refine sx_lload C 0 d_Mo_reckon_102 rfl ?_
      refine sx_aload_n C 2 d_Mo_reckon_104 rfl rfl ?_
      refine sx_getr C f_Mo_60 68 (by decide) rfl rfl d_Mo_reckon_105 ?_
      refine sx_bipush C d_Mo_reckon_108 (by decide) ?_
      refine sx_iload_n C 3 d_Mo_reckon_110 rfl rfl ?_
      refine sx_imul C d_Mo_reckon_111 ?_
      refine sx_iload_n C 1 d_Mo_reckon_112 rfl rfl ?_
      refine sx_iadd C d_Mo_reckon_113 ?_
      refine sx_laload C (32 * y + psF (M 65) (M0 1 0).toNat) (by decide) rfl rfl (by omega) (by omega) (by decide) d_Mo_reckon_114 ?_
      refine sx_lcmp_ge C 124 ⟨by omega, by omega⟩ ⟨by omega, by omega⟩ d_Mo_reckon_115 d_Mo_reckon_116 (by decide) (fun c116 => ?_) (fun c116 => ?_)
      · refine sx_aload_n C 2 d_Mo_reckon_124 rfl rfl ?_
        refine sx_getr C f_Mo_60 68 (by decide) rfl rfl d_Mo_reckon_125 ?_
        refine sx_bipush C d_Mo_reckon_128 (by decide) ?_
        refine sx_iload_n C 3 d_Mo_reckon_130 rfl rfl ?_
        refine sx_imul C d_Mo_reckon_131 ?_
        refine sx_iload_n C 1 d_Mo_reckon_132 rfl rfl ?_
        refine sx_iadd C d_Mo_reckon_133 ?_
        refine sx_laload C (32 * y + psF (M 65) (M0 1 0).toNat) (by decide) rfl rfl (by omega) (by omega) (by decide) d_Mo_reckon_134 ?_
        refine sx_lastore C (32 * y + psF (M 65) (M0 1 0).toNat) (by decide) rfl rfl (by omega) (by omega) (by decide) d_Mo_reckon_135 ?_
        refine sx_sub [2, 3] rfl ?_
        have hpl : FP M0 (M0 66) (M 65) (-1) := by rcases hb76 with ⟨z1, z2⟩ | ⟨z1, z2⟩; (exact z2); (exfalso; omega)
        refine s136_reckon M0 hT hr hA y hy C Rr hnL _ ⟨fun a p1 p2 => by rw [sx_up_ne p2]; exact h.1 a p1 p2, by rw [sx_up_ne (by decide)]; exact h.2.1, fun s hs => ?_⟩ (by rw [sx_up_ne (by decide)]; exact hih) hk
        rw [sx_up_ne (a := 65) (by decide)]
        by_cases q : s = psF (M 65) (M0 1 0).toNat
        · rw [q, sx_up_at]
          have hh := gm_hit hT hA h.2.1 hpl (h.2.2 _ hps)
          rw [if_neg (by omega)] at hh
          exact hh
        · rw [sx_up_slot (by omega)]
          exact gm_skip (by omega) (Or.inr (fun z => q z.symm)) (h.2.2 s hs)
      · refine sx_lload C 0 d_Mo_reckon_119 rfl ?_
        refine sx_goto C 135 d_Mo_reckon_121 (by decide) ?_
        refine sx_lastore C (32 * y + psF (M 65) (M0 1 0).toNat) (by decide) rfl rfl (by omega) (by omega) (by decide) d_Mo_reckon_135 ?_
        refine sx_sub [2, 3] rfl ?_
        have hpl : FP M0 (M0 66) (M 65) (-1) := by rcases hb76 with ⟨z1, z2⟩ | ⟨z1, z2⟩; (exact z2); (exfalso; omega)
        refine s136_reckon M0 hT hr hA y hy C Rr hnL _ ⟨fun a p1 p2 => by rw [sx_up_ne p2]; exact h.1 a p1 p2, by rw [sx_up_ne (by decide)]; exact h.2.1, fun s hs => ?_⟩ (by rw [sx_up_ne (by decide)]; exact hih) hk
        rw [sx_up_ne (a := 65) (by decide)]
        by_cases q : s = psF (M 65) (M0 1 0).toNat
        · rw [q, sx_up_at]
          have hh := gm_hit hT hA h.2.1 hpl (h.2.2 _ hps)
          rw [if_pos (by omega)] at hh
          exact hh
        · rw [sx_up_slot (by omega)]
          exact gm_skip (by omega) (Or.inr (fun z => q z.symm)) (h.2.2 s hs)
def r3I (M0 M : sx_M0) (y n : Nat) : Prop := (∀ a, a ≠ 65 → a ≠ 68 → a ≠ 69 → M a = M0 a) ∧ (∀ s, s < 32 → gmP M0 (M0 66) (fun _ => True) s (M 68 (32 * y + s))) ∧ (∀ b, b < 32 * y ∨ 32 * y + 32 ≤ b → M 69 b = M0 69 b) ∧ (∀ o, o < n → sdP M0 (M0 66) o (M 69 (32 * y + o)))
theorem r3_up {M0 M : sx_M0} {y n : Nat} {x : Int} (hn : n < 32) (hx : sdP M0 (M0 66) n x) (h : r3I M0 M y n) : r3I M0 (sx_up M 69 (32 * y + n) x) y (n + 1) := by
  refine ⟨fun a p1 p2 p3 => by rw [sx_up_ne p3]; exact h.1 a p1 p2 p3, fun s hs => by rw [sx_up_ne (by decide)]; exact h.2.1 s hs, fun b hb => by rw [sx_up_slot (by omega)]; exact h.2.2.1 b hb, fun o ho => ?_⟩
  by_cases q : o = n
  · rw [q, sx_up_at]; exact hx
  · rw [sx_up_slot (by omega)]; exact h.2.2.2 o (by omega)
set_option maxRecDepth 100000 in
set_option maxHeartbeats 4000000 in
theorem lp3_reckon  (M0 : sx_M0) (hT : tw M0) (hr : rT M0) (y : Nat) (hy : y ≤ 5) (o : Nat) (ho : o < 32) (M : sx_M0) (h : r3I M0 M y o) {E : sx_E} (C : sx_C SC g_tbl "SiteChoiceModel" c_Mo_reckon E) (hnL : sx_nL E = 8) (hk : ∀ v : Int, (0 ≤ v ∧ v ≤ 1000000000000) → (o < 2 ^ (M0 1 1).toNat → mnP (fun s => M 68 (32 * y + s)) o 32 v) → sx_X SC E (0, 0) GL M 241 [(4, sx_J v), (3, sx_I (((o : Nat) : Int))), (0, sx_A (53)), (1, sx_I (((y : Nat) : Int)))] []) : ∀ (nF : Nat) (s : Nat) (v : Int), 32 - s < nF → mnP (fun s => M 68 (32 * y + s)) o s v → (0 ≤ v ∧ v ≤ 1000000000000) → s ≤ 32 → sx_X SC E (0, 0) GL M 160 [(6, sx_I (((s : Nat) : Int))), (4, sx_J (v)), (3, sx_I (((o : Nat) : Int))), (0, sx_A (53)), (1, sx_I (((y : Nat) : Int)))] [] := by
  intro nF
  induction nF with
  | zero => intro s v h; omega
  | succ nF ih =>
    intro s v hn h1 h2 h3
    have hvb := h2
    have g1 := hT.2.1
    have hp6 := pow_6 (M0 1 1).toNat (by omega)
    refine sx_iload C 0 d_Mo_reckon_160 rfl ?_
    refine sx_bipush C d_Mo_reckon_162 (by decide) ?_
    refine sx_icmp_ge C 241 ⟨by omega, by omega⟩ ⟨by omega, by omega⟩ d_Mo_reckon_164 (by decide) (fun c164 => ?_) (fun c164 => ?_)
    · refine sx_sub [1, 2, 3, 4] rfl ?_
      exact hk v (by omega) (fun ho => by first | (exfalso; omega) | (rw [show s = 32 by omega] at h1; exact h1))
    · have gb := gm_bd (h.2.1 s (by omega))
      have sand : s &&& o ≤ s := Nat.and_le_left
      refine sx_iload_n C 2 d_Mo_reckon_167 rfl rfl ?_
      refine sx_iconst C d_Mo_reckon_168 ?_
      refine sx_aload_n C 3 d_Mo_reckon_169 rfl rfl ?_
      refine sx_geti C f_Mo_77 (by decide) rfl d_Mo_reckon_170 ?_
      refine sx_ishl C d_Mo_reckon_173 ?_
      rw [show M 53 1 = (((M0 1 1).toNat : Nat) : Int) from by rw [h.1 53 (by decide) (by decide) (by decide)]; have := hr.2.1; omega, shl_bit (M0 1 1).toNat (by omega)]
      refine sx_icmp_ge C 241 ⟨by omega, by omega⟩ ⟨by omega, by omega⟩ d_Mo_reckon_174 (by decide) (fun c174 => ?_) (fun c174 => ?_)
      · refine sx_sub [1, 2, 3, 4] rfl ?_
        exact hk v (by omega) (fun ho => by first | (exfalso; omega) | (rw [show s = 32 by omega] at h1; exact h1))
      · refine sx_iload C 0 d_Mo_reckon_177 rfl ?_
        refine sx_iload_n C 2 d_Mo_reckon_179 rfl rfl ?_
        refine sx_iand C d_Mo_reckon_180 ?_
        rw [and_32 s (by omega) o (by omega)]
        refine sx_iload C 0 d_Mo_reckon_181 rfl ?_
        refine sx_icmp_ne C 190 ⟨by omega, by omega⟩ ⟨by omega, by omega⟩ d_Mo_reckon_183 (by decide) (fun c183 => ?_) (fun c183 => ?_)
        · refine sx_iconst C d_Mo_reckon_190 ?_
          refine sx_istore (lv' := [(7, sx_I (0)), (6, sx_I (((s : Nat) : Int))), (4, sx_J (v)), (3, sx_I (((o : Nat) : Int))), (0, sx_A (53)), (1, sx_I (((y : Nat) : Int)))]) C d_Mo_reckon_191 (by rw [hnL]; decide) rfl ?_
          refine sx_iload C 0 d_Mo_reckon_193 rfl ?_
          refine sx_if_eq C 231 ⟨by omega, by omega⟩ d_Mo_reckon_195 (by decide) (fun c195 => ?_) (fun c195 => ?_)
          · refine sx_lload C 2 d_Mo_reckon_231 rfl ?_
            refine sx_lstore (lv' := [(4, sx_J (v)), (7, sx_I (0)), (6, sx_I (((s : Nat) : Int))), (3, sx_I (((o : Nat) : Int))), (0, sx_A (53)), (1, sx_I (((y : Nat) : Int)))]) C d_Mo_reckon_233 (by rw [hnL]; decide) rfl ?_
            refine sx_iinc (lv' := [(6, sx_I (((s + 1 : Nat) : Int))), (4, sx_J (v)), (7, sx_I (0)), (3, sx_I (((o : Nat) : Int))), (0, sx_A (53)), (1, sx_I (((y : Nat) : Int)))]) C 2 d_Mo_reckon_235 rfl (by rw [hnL]; decide) rfl ?_
            refine sx_goto C 160 d_Mo_reckon_238 (by decide) ?_
            refine sx_sub [0, 1, 3, 4, 5] rfl ?_
            exact ih (s + 1) v (by omega) (mn_no (by first | (left; omega) | (right; show v ≤ M 68 (32 * y + s); omega)) h1) hvb (by omega)
          · exfalso; omega
        · refine sx_iconst C d_Mo_reckon_186 ?_
          refine sx_goto C 191 d_Mo_reckon_187 (by decide) ?_
          refine sx_istore (lv' := [(7, sx_I (1)), (6, sx_I (((s : Nat) : Int))), (4, sx_J (v)), (3, sx_I (((o : Nat) : Int))), (0, sx_A (53)), (1, sx_I (((y : Nat) : Int)))]) C d_Mo_reckon_191 (by rw [hnL]; decide) rfl ?_
          refine sx_iload C 0 d_Mo_reckon_193 rfl ?_
          refine sx_if_eq C 231 ⟨by omega, by omega⟩ d_Mo_reckon_195 (by decide) (fun c195 => ?_) (fun c195 => ?_)
          · exfalso; omega
          · refine sx_aload_n C 4 d_Mo_reckon_198 rfl rfl ?_
            refine sx_getr C f_Mo_60 68 (by decide) rfl rfl d_Mo_reckon_199 ?_
            refine sx_bipush C d_Mo_reckon_202 (by decide) ?_
            refine sx_iload_n C 5 d_Mo_reckon_204 rfl rfl ?_
            refine sx_imul C d_Mo_reckon_205 ?_
            refine sx_iload C 1 d_Mo_reckon_206 rfl ?_
            refine sx_iadd C d_Mo_reckon_208 ?_
            refine sx_laload C (32 * y + s) (by decide) rfl rfl (by omega) (by omega) (by decide) d_Mo_reckon_209 ?_
            refine sx_lload C 2 d_Mo_reckon_210 rfl ?_
            refine sx_lcmp_ge C 231 ⟨by omega, by omega⟩ ⟨by omega, by omega⟩ d_Mo_reckon_212 d_Mo_reckon_213 (by decide) (fun c213 => ?_) (fun c213 => ?_)
            · refine sx_lload C 2 d_Mo_reckon_231 rfl ?_
              refine sx_lstore (lv' := [(4, sx_J (v)), (7, sx_I (1)), (6, sx_I (((s : Nat) : Int))), (3, sx_I (((o : Nat) : Int))), (0, sx_A (53)), (1, sx_I (((y : Nat) : Int)))]) C d_Mo_reckon_233 (by rw [hnL]; decide) rfl ?_
              refine sx_iinc (lv' := [(6, sx_I (((s + 1 : Nat) : Int))), (4, sx_J (v)), (7, sx_I (1)), (3, sx_I (((o : Nat) : Int))), (0, sx_A (53)), (1, sx_I (((y : Nat) : Int)))]) C 2 d_Mo_reckon_235 rfl (by rw [hnL]; decide) rfl ?_
              refine sx_goto C 160 d_Mo_reckon_238 (by decide) ?_
              refine sx_sub [0, 1, 3, 4, 5] rfl ?_
              exact ih (s + 1) v (by omega) (mn_no (by first | (left; omega) | (right; show v ≤ M 68 (32 * y + s); omega)) h1) hvb (by omega)
            · refine sx_aload_n C 4 d_Mo_reckon_216 rfl rfl ?_
              refine sx_getr C f_Mo_60 68 (by decide) rfl rfl d_Mo_reckon_217 ?_
              refine sx_bipush C d_Mo_reckon_220 (by decide) ?_
              refine sx_iload_n C 5 d_Mo_reckon_222 rfl rfl ?_
              refine sx_imul C d_Mo_reckon_223 ?_
              refine sx_iload C 1 d_Mo_reckon_224 rfl ?_
              refine sx_iadd C d_Mo_reckon_226 ?_
              refine sx_laload C (32 * y + s) (by decide) rfl rfl (by omega) (by omega) (by decide) d_Mo_reckon_227 ?_
              refine sx_goto C 233 d_Mo_reckon_228 (by decide) ?_
              refine sx_lstore (lv' := [(4, sx_J (M 68 (32 * y + s))), (7, sx_I (1)), (6, sx_I (((s : Nat) : Int))), (3, sx_I (((o : Nat) : Int))), (0, sx_A (53)), (1, sx_I (((y : Nat) : Int)))]) C d_Mo_reckon_233 (by rw [hnL]; decide) rfl ?_
              refine sx_iinc (lv' := [(6, sx_I (((s + 1 : Nat) : Int))), (4, sx_J (M 68 (32 * y + s))), (7, sx_I (1)), (3, sx_I (((o : Nat) : Int))), (0, sx_A (53)), (1, sx_I (((y : Nat) : Int)))]) C 2 d_Mo_reckon_235 rfl (by rw [hnL]; decide) rfl ?_
              refine sx_goto C 160 d_Mo_reckon_238 (by decide) ?_
              refine sx_sub [0, 1, 3, 4, 5] rfl ?_
              exact ih (s + 1) _ (by omega) (mn_yes (G := (fun s => M 68 (32 * y + s))) (by omega) (by show M 68 (32 * y + s) < v; omega) h1) gb (by omega)
set_option maxRecDepth 100000 in
set_option maxHeartbeats 4000000 in
theorem lp4_reckon  (M0 : sx_M0) (hT : tw M0) (hr : rT M0) (y : Nat) (hy : y ≤ 5) {E : sx_E} (C : sx_C SC g_tbl "SiteChoiceModel" c_Mo_reckon E) {Po : Option sx_V → sx_G → sx_M0 → Prop} (hPo : ∀ M' : sx_M0, ((∀ a, a ≠ 65 → a ≠ 68 → a ≠ 69 → M' a = M0 a) ∧ (∀ b, b < 32 * y ∨ 32 * y + 32 ≤ b → M' 69 b = M0 69 b) ∧ (∀ o, o < 32 → sdP M0 (M0 66) o (M' 69 (32 * y + o)))) → Po none GL M') (Rr : sx_Ret SC none (rmk 3 120) Po E) (hnL : sx_nL E = 8) : ∀ (nF : Nat) (o : Nat) (M : sx_M0), 32 - o < nF → r3I M0 M y o → o ≤ 32 → sx_X SC E (0, 0) GL M 146 [(3, sx_I (((o : Nat) : Int))), (0, sx_A (53)), (1, sx_I (((y : Nat) : Int)))] [] := by
  intro nF
  induction nF with
  | zero => intro o M h; omega
  | succ nF ih =>
    intro o M hn h h2
    have g1 := hT.2.1
    have hp6 := pow_6 (M0 1 1).toNat (by omega)
    have fr : ∀ a, a ≤ 62 → M a = M0 a := fun a ha => h.1 a (by omega) (by omega) (by omega)
    have hTM : tw M := tw_fr (fun a ha => fr a (by omega)) hT
    have hrM : rT M := rT_fr fr hT hr
    have e1 : M 1 = M0 1 := fr 1 (by decide)
    refine sx_iload_n C 0 d_Mo_reckon_146 rfl rfl ?_
    refine sx_bipush C d_Mo_reckon_147 (by decide) ?_
    refine sx_icmp_ge C 285 ⟨by omega, by omega⟩ ⟨by omega, by omega⟩ d_Mo_reckon_149 (by decide) (fun c149 => ?_) (fun c149 => ?_)
    · refine sx_return C Rr rfl d_Mo_reckon_285 ?_
      rw [show o = 32 by omega] at h
      exact hPo _ ⟨h.1, h.2.2.1, h.2.2.2⟩
    · refine sx_ldc2 (v := (1000000000000)) C (1000000000000) (tb_ 758 (by decide +kernel) rfl) (by decide) d_Mo_reckon_152 ?_
      refine sx_lstore (lv' := [(4, sx_J (1000000000000)), (3, sx_I (((o : Nat) : Int))), (0, sx_A (53)), (1, sx_I (((y : Nat) : Int)))]) C d_Mo_reckon_155 (by rw [hnL]; decide) rfl ?_
      refine sx_iconst C d_Mo_reckon_157 ?_
      refine sx_istore (lv' := [(6, sx_I (0)), (4, sx_J (1000000000000)), (3, sx_I (((o : Nat) : Int))), (0, sx_A (53)), (1, sx_I (((y : Nat) : Int)))]) C d_Mo_reckon_158 (by rw [hnL]; decide) rfl ?_
      refine sx_sub [0, 1, 2, 3, 4] rfl ?_
      refine lp3_reckon M0 hT hr y hy o (by omega) M h C hnL (fun v hvb hx2 => ?_) _ 0 1000000000000 (Nat.lt_succ_self _) ⟨Int.le_refl _, fun s hs => absurd hs (Nat.not_lt_zero s), Or.inl rfl⟩ ⟨by decide, by decide⟩ (by decide)
      refine sx_aload_n C 2 d_Mo_reckon_241 rfl rfl ?_
      refine sx_getr C f_Mo_63 69 (by decide) rfl rfl d_Mo_reckon_242 ?_
      refine sx_bipush C d_Mo_reckon_245 (by decide) ?_
      refine sx_iload_n C 3 d_Mo_reckon_247 rfl rfl ?_
      refine sx_imul C d_Mo_reckon_248 ?_
      refine sx_iload_n C 1 d_Mo_reckon_249 rfl rfl ?_
      refine sx_iadd C d_Mo_reckon_250 ?_
      refine sx_iload_n C 1 d_Mo_reckon_251 rfl rfl ?_
      refine sx_iconst C d_Mo_reckon_252 ?_
      refine sx_aload_n C 2 d_Mo_reckon_253 rfl rfl ?_
      refine sx_geti C f_Mo_77 (by decide) rfl d_Mo_reckon_254 ?_
      refine sx_ishl C d_Mo_reckon_257 ?_
      rw [show M 53 1 = (((M0 1 1).toNat : Nat) : Int) from by rw [h.1 53 (by decide) (by decide) (by decide)]; have := hr.2.1; omega, shl_bit (M0 1 1).toNat (by omega)]
      refine sx_icmp_ge C 275 ⟨by omega, by omega⟩ ⟨by omega, by omega⟩ d_Mo_reckon_258 (by decide) (fun c258 => ?_) (fun c258 => ?_)
      · refine sx_ldc2 (v := (1000000000000)) C (1000000000000) (tb_ 758 (by decide +kernel) rfl) (by decide) d_Mo_reckon_275 ?_
        refine sx_lastore C (32 * y + o) (by decide) rfl rfl (by omega) (by omega) (by decide) d_Mo_reckon_278 ?_
        refine sx_iinc (lv' := [(3, sx_I (((o + 1 : Nat) : Int))), (4, sx_J (v)), (0, sx_A (53)), (1, sx_I (((y : Nat) : Int)))]) C 1 d_Mo_reckon_279 rfl (by rw [hnL]; decide) rfl ?_
        refine sx_goto C 146 d_Mo_reckon_282 (by decide) ?_
        refine sx_sub [0, 2, 3] rfl ?_
        exact ih (o + 1) _ (by omega) (r3_up (by omega) (Or.inl ⟨rfl, fun z => by first | (have := z.1; omega) | (rcases hb264 with ⟨z1, z2⟩ | ⟨z1, z2⟩; (exfalso; omega); exact z2 z.2.1)⟩) h) (by omega)
      · refine sx_aload_n C 2 d_Mo_reckon_261 rfl rfl ?_
        refine sx_iload_n C 1 d_Mo_reckon_262 rfl rfl ?_
        refine sx_iconst C d_Mo_reckon_263 ?_
        refine sx_callV (n := 71) (As := [sx_I (((o : Nat) : Int)), sx_I (-1)]) (st := [sx_I ((32 * ((y : Nat) : Int)) + ((o : Nat) : Int)), sx_A (69)]) C (ct_Mo_mayBeOpen _ _ _ M hTM hrM o (by rw [e1]; omega) (-1) ⟨by decide, by decide⟩) rfl (by decide) rfl (cv_Mo_122 E C _ (by rw [Rr.2.2]; decide)) (Nat.le_of_ble_eq_true rfl) d_Mo_reckon_264 (by rw [Rr.2.2]; decide) (by decide) rfl rfl rfl (fun r264 G264 M264 hpo _ => ?_)
        obtain ⟨ee1, ee2, b264, rfl, hb264⟩ := hpo
        rw [ee1, ee2]
        rw [mo_fr (fun a ha => fr a (by omega))] at hb264
        show sx_X SC E (0, 0) GL M 267 [(4, sx_J (v)), (3, sx_I (((o : Nat) : Int))), (0, sx_A (53)), (1, sx_I (((y : Nat) : Int)))] [sx_I (b264), sx_I ((32 * ((y : Nat) : Int)) + ((o : Nat) : Int)), sx_A (69)]
        refine sx_if_eq C 275 ⟨by omega, by omega⟩ d_Mo_reckon_267 (by decide) (fun c267 => ?_) (fun c267 => ?_)
        · refine sx_ldc2 (v := (1000000000000)) C (1000000000000) (tb_ 758 (by decide +kernel) rfl) (by decide) d_Mo_reckon_275 ?_
          refine sx_lastore C (32 * y + o) (by decide) rfl rfl (by omega) (by omega) (by decide) d_Mo_reckon_278 ?_
          refine sx_iinc (lv' := [(3, sx_I (((o + 1 : Nat) : Int))), (4, sx_J (v)), (0, sx_A (53)), (1, sx_I (((y : Nat) : Int)))]) C 1 d_Mo_reckon_279 rfl (by rw [hnL]; decide) rfl ?_
          refine sx_goto C 146 d_Mo_reckon_282 (by decide) ?_
          refine sx_sub [0, 2, 3] rfl ?_
          exact ih (o + 1) _ (by omega) (r3_up (by omega) (Or.inl ⟨rfl, fun z => by first | (have := z.1; omega) | (rcases hb264 with ⟨z1, z2⟩ | ⟨z1, z2⟩; (exfalso; omega); exact z2 z.2.1)⟩) h) (by omega)
        · refine sx_lload C 0 d_Mo_reckon_270 rfl ?_
          refine sx_goto C 278 d_Mo_reckon_272 (by decide) ?_
          refine sx_lastore C (32 * y + o) (by decide) rfl rfl (by omega) (by omega) (by decide) d_Mo_reckon_278 ?_
          refine sx_iinc (lv' := [(3, sx_I (((o + 1 : Nat) : Int))), (4, sx_J (v)), (0, sx_A (53)), (1, sx_I (((y : Nat) : Int)))]) C 1 d_Mo_reckon_279 rfl (by rw [hnL]; decide) rfl ?_
          refine sx_goto C 146 d_Mo_reckon_282 (by decide) ?_
          refine sx_sub [0, 2, 3] rfl ?_
          exact ih (o + 1) _ (by omega) (r3_up (by omega) (sd_of hT (by omega) (by rcases hb264 with ⟨z1, z2⟩ | ⟨z1, z2⟩; (exact z2); (exfalso; omega)) h.2.1 (hx2 (by omega))) h) (by omega)
theorem rk_post {M M' : sx_M0} {y : Nat} (hT : tw M) (h : (∀ a, a ≠ 65 → a ≠ 68 → a ≠ 69 → M' a = (akI (fl1 M y 32) (2 ^ (M 1 0).toNat - 1) y 6) a) ∧ (∀ b, b < 32 * y ∨ 32 * y + 32 ≤ b → M' 69 b = (akI (fl1 M y 32) (2 ^ (M 1 0).toNat - 1) y 6) 69 b) ∧ (∀ o, o < 32 → sdP (akI (fl1 M y 32) (2 ^ (M 1 0).toNat - 1) y 6) ((akI (fl1 M y 32) (2 ^ (M 1 0).toNat - 1) y 6) 66) o (M' 69 (32 * y + o)))) : (∀ a, a ≠ 65 → a ≠ 66 → a ≠ 68 → a ≠ 69 → M' a = M a) ∧ (∀ b, b < 32 * y ∨ 32 * y + 32 ≤ b → M' 69 b = M 69 b) ∧ (∀ o, o < 32 → sdP M (akS M (2 ^ (M 1 0).toNat - 1) y) o (M' 69 (32 * y + o))) := by
  have g0 := hT.1
  refine ⟨fun a p1 p2 p3 p4 => by rw [h.1 a p1 p3 p4, ak_ne p1 p2, fl1_ne p3], fun b hb => by rw [h.2.1 b hb, ak_ne (by decide) (by decide), fl1_ne (by decide)], fun o ho => ?_⟩
  exact sdP_congr hT (fun a ha => by rw [ak_ne (by omega) (by omega), fl1_ne (by omega)]) (fun d hd => by rw [ak_66 (by omega)]; exact ak_congr (fun a ha => fl1_ne (by omega))) (h.2.2 o ho)
set_option maxRecDepth 100000 in
set_option maxHeartbeats 4000000 in
theorem ct_Mo_reckon (l : Launch) (D : va_G) (tc : Nat → ClassId) (M : sx_M0) (hT : tw M) (hr : rT M) (y : Nat) (hy : y ≤ 5) : sx_Met SC l D tc y_Mo_reckon w_Mo_reckon (rmk 3 120) [sx_A (53), sx_I (((y : Nat) : Int))] GL M (fun r G' M' => G' = GL ∧ r = none ∧ (∀ a, a ≠ 65 → a ≠ 66 → a ≠ 68 → a ≠ 69 → M' a = M a) ∧ (∀ b, b < 32 * y ∨ 32 * y + 32 ≤ b → M' 69 b = M 69 b) ∧ (∀ o, o < 32 → sdP M (akS M (2 ^ (M 1 0).toNat - 1) y) o (M' 69 (32 * y + o)))) := by
  refine sx_enter (by decide) rfl (Nat.le_of_ble_eq_true rfl) (Ts := g_tbl) (fun _ h => List.mem_cons_of_mem _ h) (fun E C Rr hnm hnL => ?_)
  have g0 := hT.1
  have g1 := hT.2.1
  have hp7 := pow_7 (M 1 0).toNat (by omega)
  have hTF : tw (fl1 M y 32) := tw_fr (fun a ha => fl1_ne (by omega)) hT
  have hrF : rT (fl1 M y 32) := rT_fr (fun a ha => fl1_ne (by omega)) hT hr
  have ap := ak_pre hTF hrF (u := (2 ^ (M 1 0).toNat - 1)) (y := y) hy
  have frA : ∀ a, a ≠ 65 → a ≠ 66 → a ≠ 68 → (akI (fl1 M y 32) (2 ^ (M 1 0).toNat - 1) y 6) a = M a := fun a p1 p2 p3 => by rw [ak_ne p1 p2, fl1_ne p3]
  have g68 : ∀ s, s < 32 → (akI (fl1 M y 32) (2 ^ (M 1 0).toNat - 1) y 6) 68 (32 * y + s) = 1000000000000 := fun s hs => by rw [ak_ne (by decide) (by decide)]; exact fl1_at hs
  have hT4 : ∀ X : sx_M0, rkI0 (akI (fl1 M y 32) (2 ^ (M 1 0).toNat - 1) y 6) X y → sx_X SC E (0, 0) GL X 144 [(0, sx_A (53)), (1, sx_I (((y : Nat) : Int)))] [] := fun X hX => by
    refine sx_iconst C d_Mo_reckon_144 ?_
    refine sx_istore_n (lv' := [(3, sx_I (0)), (0, sx_A (53)), (1, sx_I (((y : Nat) : Int)))]) C d_Mo_reckon_145 rfl (by rw [hnL]; decide) rfl ?_
    refine sx_sub [0, 1, 2] rfl ?_
    exact lp4_reckon (akI (fl1 M y 32) (2 ^ (M 1 0).toNat - 1) y 6) ap.1 ap.2.1 y hy C (fun _ hh => ⟨rfl, rfl, rk_post hT hh⟩) Rr hnL _ 0 X (Nat.lt_succ_self _) ⟨fun a p1 p2 p3 => hX.1 a p1 p2, hX.2, fun b hb => by rw [hX.1 69 (by decide) (by decide)], fun o ho => absurd ho (Nat.not_lt_zero o)⟩ (by decide)
  refine sx_iconst C d_Mo_reckon_0 ?_
  refine sx_istore_n (lv' := [(2, sx_I (0)), (0, sx_A (53)), (1, sx_I (((y : Nat) : Int)))]) C d_Mo_reckon_1 rfl (by rw [hnL]; decide) rfl ?_
  refine sx_sub [0, 1, 2] rfl ?_
  have hc := lp1_reckon M y hy C hnL (hk := ?_) 33 0 (by decide) (by decide)
  · rw [fl1_0] at hc; exact hc
  · skip
    refine sx_aload_n C 0 d_Mo_reckon_28 rfl rfl ?_
    refine sx_aload_n C 0 d_Mo_reckon_29 rfl rfl ?_
    refine sx_callV (n := 71) (As := []) (st := [sx_A (53)]) C (ct_Mo_all _ _ _ (fl1 M y 32) hTF hrF) rfl (by decide) rfl (cv_Mo_143 E C _ (by rw [Rr.2.2]; decide)) (Nat.le_of_ble_eq_true rfl) d_Mo_reckon_30 (by rw [Rr.2.2]; decide) (by decide) rfl rfl rfl (fun r30 G30 M30 hpo _ => ?_)
    obtain ⟨ee1, ee2, rfl⟩ := hpo
    rw [ee1, ee2, fl1_ne (by decide)]
    show sx_X SC E (0, 0) GL (fl1 M y 32) 33 [(0, sx_A (53)), (1, sx_I (((y : Nat) : Int)))] [sx_I ((((2 ^ (M 1 0).toNat - 1) : Nat) : Int)), sx_A (53)]
    refine sx_iload_n C 1 d_Mo_reckon_33 rfl rfl ?_
    refine sx_callV (n := 71) (As := [sx_I ((((2 ^ (M 1 0).toNat - 1) : Nat) : Int)), sx_I (((y : Nat) : Int))]) (st := []) C (ct_Mo_askFor _ _ _ (fl1 M y 32) hTF hrF (2 ^ (M 1 0).toNat - 1) y (by omega) hy) rfl (by decide) rfl (cv_Mo_153 E C _ (by rw [Rr.2.2]; decide)) (Nat.le_of_ble_eq_true rfl) d_Mo_reckon_34 (by rw [Rr.2.2]; decide) (by decide) rfl rfl rfl (fun r34 G34 M34 hpo _ => ?_)
    obtain ⟨ee1, ee2, rfl⟩ := hpo
    rw [ee1, ee2]
    show sx_X SC E (0, 0) GL (akI (fl1 M y 32) (2 ^ (M 1 0).toNat - 1) y 6) 37 [(0, sx_A (53)), (1, sx_I (((y : Nat) : Int)))] []
    refine sx_aload_n C 0 d_Mo_reckon_37 rfl rfl ?_
    refine sx_geti C f_Mo_77 (by decide) rfl d_Mo_reckon_38 ?_
    rw [show (akI (fl1 M y 32) (2 ^ (M 1 0).toNat - 1) y 6) 53 1 = M 1 1 from by rw [ak_ne (by decide) (by decide), fl1_ne (by decide)]; exact hr.2.1]
    refine sx_if_gt C 51 ⟨by omega, by omega⟩ d_Mo_reckon_41 (by decide) (fun c41 => ?_) (fun c41 => ?_)
    · refine sx_iconst C d_Mo_reckon_51 ?_
      refine sx_goto C 56 d_Mo_reckon_52 (by decide) ?_
      refine sx_istore_n (lv' := [(2, sx_I (1)), (0, sx_A (53)), (1, sx_I (((y : Nat) : Int)))]) C d_Mo_reckon_56 rfl (by rw [hnL]; decide) rfl ?_
      refine sx_iload_n C 0 d_Mo_reckon_57 rfl rfl ?_
      refine sx_if_eq C 144 ⟨by omega, by omega⟩ d_Mo_reckon_58 (by decide) (fun c58 => ?_) (fun c58 => ?_)
      · exfalso; omega
      · refine sx_sub [1, 2] rfl ?_
        have hts : tSh (akI (fl1 M y 32) (2 ^ (M 1 0).toNat - 1) y 6) ((akI (fl1 M y 32) (2 ^ (M 1 0).toNat - 1) y 6) 66) ((akI (fl1 M y 32) (2 ^ (M 1 0).toNat - 1) y 6) 65) := ⟨fun e he => by
            have e16 : ((akI (fl1 M y 32) (2 ^ (M 1 0).toNat - 1) y 6) 1 0).toNat ≤ 6 := by rw [frA 1 (by decide) (by decide) (by decide)]; omega
            have q1 := ap.2.2.1 e (by omega)
            rw [ap.2.2.2.1 e (by omega), frA 1 (by decide) (by decide) (by decide)]
            unfold trS
            by_cases y2 : 0 < (akI (fl1 M y 32) (2 ^ (M 1 0).toNat - 1) y 6) 66 e
            · rw [if_pos y2]
              refine ⟨⟨fun _ => Int.le_refl 0, fun _ => y2⟩, by decide, ?_⟩
              first | omega | (have y3 := hc45.mp (by omega) e he; exact absurd y2 y3)
            · rw [if_neg y2]
              exact ⟨⟨fun z => absurd z y2, fun z => absurd z (by decide)⟩, by decide, by omega⟩, fun e h1 h2 => by rw [ap.2.2.2.1 e h2]; unfold trS; rw [ap.2.2.2.2 e h1 h2]; rfl⟩
        exact lp2_reckon (akI (fl1 M y 32) (2 ^ (M 1 0).toNat - 1) y 6) ap.1 ap.2.1 ap.2.2.1 y hy C Rr hnL hT4 _ (akI (fl1 M y 32) (2 ^ (M 1 0).toNat - 1) y 6) (Nat.lt_succ_self _) ⟨fun _ _ _ => rfl, hts, fun s hs => Or.inl ⟨g68 s hs, fun g hg hl => absurd hl (lxs_min (fun e he => by rw [ap.2.2.2.1 e (by rw [frA 1 (by decide) (by decide) (by decide)] at he; omega)]; exact tr_bd.2) (pn_sh hts hg) _ 0 (by omega))⟩⟩
    · refine sx_aload_n C 0 d_Mo_reckon_44 rfl rfl ?_
      refine sx_callV (n := 71) (As := []) (st := []) C (ct_Mo_count _ _ _ (akI (fl1 M y 32) (2 ^ (M 1 0).toNat - 1) y 6) ap.1 ap.2.1 ap.2.2.1) rfl (by decide) rfl (cv_Mo_125 E C _ (by rw [Rr.2.2]; decide)) (Nat.le_of_ble_eq_true rfl) d_Mo_reckon_45 (by rw [Rr.2.2]; decide) (by decide) rfl rfl rfl (fun r45 G45 M45 hpo _ => ?_)
      obtain ⟨ee1, ee2, z45, rfl, hz45, hc45⟩ := hpo
      rw [ee1, ee2]
      show sx_X SC E (0, 0) GL (akI (fl1 M y 32) (2 ^ (M 1 0).toNat - 1) y 6) 48 [(0, sx_A (53)), (1, sx_I (((y : Nat) : Int)))] [sx_I (z45)]
      refine sx_if_ne C 55 ⟨by omega, by omega⟩ d_Mo_reckon_48 (by decide) (fun c48 => ?_) (fun c48 => ?_)
      · refine sx_iconst C d_Mo_reckon_55 ?_
        refine sx_istore_n (lv' := [(2, sx_I (0)), (0, sx_A (53)), (1, sx_I (((y : Nat) : Int)))]) C d_Mo_reckon_56 rfl (by rw [hnL]; decide) rfl ?_
        refine sx_iload_n C 0 d_Mo_reckon_57 rfl rfl ?_
        refine sx_if_eq C 144 ⟨by omega, by omega⟩ d_Mo_reckon_58 (by decide) (fun c58 => ?_) (fun c58 => ?_)
        · refine sx_sub [1, 2] rfl ?_
          refine hT4 (akI (fl1 M y 32) (2 ^ (M 1 0).toNat - 1) y 6) ⟨fun _ _ _ => rfl, fun s hs => Or.inl ⟨g68 s hs, fun g hg _ _ => ?_⟩⟩
          have : ¬ ∀ d, d < ((akI (fl1 M y 32) (2 ^ (M 1 0).toNat - 1) y 6) 1 0).toNat → ¬ 0 < (akI (fl1 M y 32) (2 ^ (M 1 0).toNat - 1) y 6) 66 d := fun y2 => by have := hc45.mpr y2; omega
          refine this (fun d hd y2 => ?_)
          have q1 := (hg.2.2.1 d hd).mp y2
          have q2 := (hg.1 d hd).2
          rw [frA 1 (by decide) (by decide) (by decide)] at q2
          omega
        · exfalso; omega
      · refine sx_iconst C d_Mo_reckon_51 ?_
        refine sx_goto C 56 d_Mo_reckon_52 (by decide) ?_
        refine sx_istore_n (lv' := [(2, sx_I (1)), (0, sx_A (53)), (1, sx_I (((y : Nat) : Int)))]) C d_Mo_reckon_56 rfl (by rw [hnL]; decide) rfl ?_
        refine sx_iload_n C 0 d_Mo_reckon_57 rfl rfl ?_
        refine sx_if_eq C 144 ⟨by omega, by omega⟩ d_Mo_reckon_58 (by decide) (fun c58 => ?_) (fun c58 => ?_)
        · exfalso; omega
        · refine sx_sub [1, 2] rfl ?_
          have hts : tSh (akI (fl1 M y 32) (2 ^ (M 1 0).toNat - 1) y 6) ((akI (fl1 M y 32) (2 ^ (M 1 0).toNat - 1) y 6) 66) ((akI (fl1 M y 32) (2 ^ (M 1 0).toNat - 1) y 6) 65) := ⟨fun e he => by
              have e16 : ((akI (fl1 M y 32) (2 ^ (M 1 0).toNat - 1) y 6) 1 0).toNat ≤ 6 := by rw [frA 1 (by decide) (by decide) (by decide)]; omega
              have q1 := ap.2.2.1 e (by omega)
              rw [ap.2.2.2.1 e (by omega), frA 1 (by decide) (by decide) (by decide)]
              unfold trS
              by_cases y2 : 0 < (akI (fl1 M y 32) (2 ^ (M 1 0).toNat - 1) y 6) 66 e
              · rw [if_pos y2]
                refine ⟨⟨fun _ => Int.le_refl 0, fun _ => y2⟩, by decide, ?_⟩
                first | omega | (have y3 := hc45.mp (by omega) e he; exact absurd y2 y3)
              · rw [if_neg y2]
                exact ⟨⟨fun z => absurd z y2, fun z => absurd z (by decide)⟩, by decide, by omega⟩, fun e h1 h2 => by rw [ap.2.2.2.1 e h2]; unfold trS; rw [ap.2.2.2.2 e h1 h2]; rfl⟩
          exact lp2_reckon (akI (fl1 M y 32) (2 ^ (M 1 0).toNat - 1) y 6) ap.1 ap.2.1 ap.2.2.1 y hy C Rr hnL hT4 _ (akI (fl1 M y 32) (2 ^ (M 1 0).toNat - 1) y 6) (Nat.lt_succ_self _) ⟨fun _ _ _ => rfl, hts, fun s hs => Or.inl ⟨g68 s hs, fun g hg hl => absurd hl (lxs_min (fun e he => by rw [ap.2.2.2.1 e (by rw [frA 1 (by decide) (by decide) (by decide)] at he; omega)]; exact tr_bd.2) (pn_sh hts hg) _ 0 (by omega))⟩⟩
