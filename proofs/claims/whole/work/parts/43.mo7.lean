theorem PN_congr {M M' : sx_M0} {ak ak' g : Nat → Int} {f : Int} (h6 : (M 1 0).toNat ≤ 6) (hM : ∀ a, a ≤ 16 → M' a = M a) (h2 : ∀ d, d < (M 1 0).toNat → ak d = ak' d) : PN M' ak f g ↔ PN M ak' f g := by
  unfold PN
  rw [hM 1 (by decide), FP_congr h6 hM (fun _ _ => rfl) h2]
theorem bsR_congr {M M' : sx_M0} {ak ak' b : Nat → Int} {f z x : Int} {R : (Nat → Int) → Prop} (h6 : (M 1 0).toNat ≤ 6) (hM : ∀ a, a ≤ 16 → M' a = M a) (h2 : ∀ d, d < (M 1 0).toNat → ak d = ak' d) : bsR M' ak f z x R b → bsR M ak' f z x R b := by
  have e : ∀ g, PN M' ak f g ↔ PN M ak' f g := fun g => PN_congr h6 hM h2
  have es : ∀ g, smF M' ak g (M 1 0).toNat = smF M ak' g (M 1 0).toNat := fun g => smF_congr h6 hM (fun _ _ => rfl) h2
  intro h
  unfold bsR at h ⊢
  rw [hM 1 (by decide)] at h
  rcases h with ⟨h1, h3⟩ | ⟨g0, h1, h3, h4, h5, h6, h7⟩
  · exact Or.inl ⟨h1, fun g hg => h3 g ((e g).mpr hg)⟩
  · refine Or.inr ⟨g0, (e g0).mp h1, h3, h4, by rw [← es]; exact h5, h6, fun hz g hg hl => ?_⟩
    have := h7 hz g ((e g).mpr hg) hl
    rw [es] at this
    exact this
theorem rT_fc {M M' : sx_M0} (h : ∀ a, a ≤ 62 → a ≠ 53 → M' a = M a) (h0 : M' 53 0 = M 53 0) (h1 : M' 53 1 = M 53 1) (h11 : M' 53 11 = M 53 11) (hT : tw M) (hr : rT M) : rT M' := by
  have g0 := hT.1
  unfold rT at hr ⊢
  rw [h0, h1, h11, h 1 (by decide) (by decide), h 54 (by decide) (by decide), h 2 (by decide) (by decide), h 55 (by decide) (by decide), h 3 (by decide) (by decide), h 62 (by decide) (by decide), h 56 (by decide) (by decide), h 57 (by decide) (by decide), h 58 (by decide) (by decide), h 59 (by decide) (by decide), h 60 (by decide) (by decide), h 61 (by decide) (by decide), h 11 (by decide) (by decide), h 12 (by decide) (by decide), h 13 (by decide) (by decide), h 14 (by decide) (by decide), h 15 (by decide) (by decide), h 16 (by decide) (by decide)]
  refine ⟨hr.1, hr.2.1, hr.2.2.1, hr.2.2.2.1, hr.2.2.2.2.1, fun d p h1 h2 => ?_, hr.2.2.2.2.2.2⟩
  rw [h (4 + 1 + d) (by omega) (by omega)]; exact hr.2.2.2.2.2.1 d p h1 h2
/-- after the needs of a set were asked for: what the search needs -/
theorem ak_pre {M : sx_M0} (hT : tw M) (hr : rT M) {u y : Nat} (hy : y ≤ 5) : tw (akI M u y 6) ∧ rT (akI M u y 6) ∧ (∀ d, d < 6 → 0 ≤ akI M u y 6 66 d ∧ akI M u y 6 66 d ≤ 150) ∧ (∀ d, d < 6 → akI M u y 6 65 d = trS (akI M u y 6 66) d) ∧ (∀ d, (akI M u y 6 1 0).toNat ≤ d → d < 6 → akI M u y 6 66 d = 0) := by
  have f : ∀ a, a ≤ 62 → akI M u y 6 a = M a := fun a ha => ak_ne (by omega) (by omega)
  have g0 := hT.1
  refine ⟨tw_fr (fun a ha => f a (by omega)) hT, rT_fr f hT hr, fun d hd => by rw [ak_66 hd]; exact akS_bd hT hy hd, fun d hd => ?_, fun d h1 h2 => ?_⟩
  · rw [ak_65 hd]
    unfold trS
    rw [ak_66 hd]
  · rw [ak_66 h2]
    rw [f 1 (by decide)] at h1
    unfold akS
    rw [if_neg (fun z => by have := z.1; omega)]
theorem ak_bs {M : sx_M0} (hT : tw M) {u y : Nat} {f z x : Int} {R : (Nat → Int) → Prop} {b : Nat → Int} (h : bsR (akI M u y 6) (akI M u y 6 66) f z x R b) : bsR M (akS M u y) f z x R b := by
  have g0 := hT.1
  exact bsR_congr (by omega) (fun a ha => ak_ne (by omega) (by omega)) (fun d hd => ak_66 (by omega)) h
/-- no plan serves the districts of set u -/
def npS (M : sx_M0) (u : Nat) : Prop := ¬ ∃ g, PN M (akS M u 0) (-1) g
theorem ak_congr {M M' : sx_M0} (hM : ∀ a, a ≤ 16 → M' a = M a) {u y d : Nat} : akS M' u y d = akS M u y d := by
  unfold akS
  rw [hM 1 (by decide), hM 2 (by decide)]
theorem np_congr {M M' : sx_M0} (hT : tw M) (hM : ∀ a, a ≤ 16 → M' a = M a) {u : Nat} : npS M' u ↔ npS M u := by
  have g0 := hT.1
  unfold npS
  have : ∀ g, PN M' (akS M' u 0) (-1) g ↔ PN M (akS M u 0) (-1) g := fun g => PN_congr (by omega) hM (fun d _ => ak_congr hM)
  constructor
  · intro h ⟨g, hg⟩; exact h ⟨g, (this g).mpr hg⟩
  · intro h ⟨g, hg⟩; exact h ⟨g, (this g).mp hg⟩
theorem bs_np {M : sx_M0} {u : Nat} {x z : Int} {b : Nat → Int} (h : bsR M (akS M u 0) (-1) z x (fun _ => True) b) : (x < 0 ↔ npS M u) := by
  rcases h with ⟨h1, h2⟩ | ⟨g0, h1, h2, h3, h4⟩
  · exact ⟨fun _ ⟨g, hg⟩ => h2 g hg trivial, fun _ => by omega⟩
  · exact ⟨fun y => by omega, fun y => absurd ⟨g0, h1⟩ y⟩
def fcF (M0 M : sx_M0) (cs : Nat) : Prop := (∀ a, a ≠ 53 → a ≠ 65 → a ≠ 66 → a ≠ 67 → M a = M0 a) ∧ (∀ b, b ≠ 16 → M 53 b = M0 53 b) ∧ M 53 16 = (cs : Int) ∧ cs < 64
def fcS (M0 : sx_M0) (n s cs : Nat) : Prop := (∀ u, 0 < u → u < 2 ^ (M0 1 0).toNat → bcS u < n → ¬ npS M0 u) ∧ ((cs = 0 ∧ ∀ u, 0 < u → u < s → bcS u = n → ¬ npS M0 u) ∨ (0 < cs ∧ cs < 2 ^ (M0 1 0).toNat ∧ bcS cs = n ∧ npS M0 cs ∧ ∀ u, 0 < u → u < s → bcS u = n → npS M0 u → kyS u ≤ kyS cs))
def fcE (M0 : sx_M0) (cs : Nat) : Prop := (cs = 0 ∧ ∀ u, 0 < u → u < 2 ^ (M0 1 0).toNat → ¬ npS M0 u) ∨ (0 < cs ∧ cs < 2 ^ (M0 1 0).toNat ∧ npS M0 cs ∧ ∀ u, 0 < u → u < 2 ^ (M0 1 0).toNat → (bcS u < bcS cs ∨ (bcS u = bcS cs ∧ kyS cs < kyS u)) → ¬ npS M0 u)
theorem fc_keep {M0 : sx_M0} {n s cs : Nat} (hk : bcS s ≠ n ∨ (0 < cs ∧ ¬ kyS cs < kyS s) ∨ ¬ npS M0 s) (h : fcS M0 n s cs) : fcS M0 n (s + 1) cs := by
  refine ⟨h.1, ?_⟩
  rcases h.2 with ⟨h1, h2⟩ | ⟨h1, h2, h3, h4, h5⟩
  · refine Or.inl ⟨h1, fun u q1 q2 q3 => ?_⟩
    by_cases e : u = s
    · subst e
      rcases hk with hk | hk | hk
      · exact absurd q3 hk
      · omega
      · exact hk
    · exact h2 u q1 (by omega) q3
  · refine Or.inr ⟨h1, h2, h3, h4, fun u q1 q2 q3 q4 => ?_⟩
    by_cases e : u = s
    · subst e
      rcases hk with hk | hk | hk
      · exact absurd q3 hk
      · omega
      · exact absurd q4 hk
    · exact h5 u q1 (by omega) q3 q4
theorem fc_new {M0 : sx_M0} {n s cs : Nat} (hs : 0 < s) (hs2 : s < 2 ^ (M0 1 0).toNat) (hb : bcS s = n) (hn : npS M0 s) (hk : cs = 0 ∨ kyS cs < kyS s) (h : fcS M0 n s cs) : fcS M0 n (s + 1) s := by
  refine ⟨h.1, Or.inr ⟨hs, hs2, hb, hn, fun u q1 q2 q3 q4 => ?_⟩⟩
  by_cases e : u = s
  · rw [e]; exact Nat.le_refl _
  · rcases h.2 with ⟨h1, h2⟩ | ⟨h1, h2, h3, h4, h5⟩
    · exact absurd q4 (h2 u q1 (by omega) q3)
    · have := h5 u q1 (by omega) q3 q4
      omega
def fcO (M0 : sx_M0) (n cs : Nat) : Prop := (cs = 0 ∧ ∀ u, 0 < u → u < 2 ^ (M0 1 0).toNat → bcS u < n → ¬ npS M0 u) ∨ (cs ≠ 0 ∧ fcE M0 cs)
theorem fc_out {M0 : sx_M0} {n s cs : Nat} (hs : s = 2 ^ (M0 1 0).toNat) (h : fcS M0 n s cs) : fcO M0 (n + 1) cs := by
  subst hs
  rcases h.2 with ⟨h1, h2⟩ | ⟨h1, h2, h3, h4, h5⟩
  · refine Or.inl ⟨h1, fun u q1 q2 q3 => ?_⟩
    by_cases e : bcS u = n
    · exact h2 u q1 q2 e
    · exact h.1 u q1 q2 (by omega)
  · refine Or.inr ⟨by omega, Or.inr ⟨h1, h2, h4, fun u q1 q2 q3 q4 => ?_⟩⟩
    rcases q3 with q3 | ⟨q3, q5⟩
    · exact h.1 u q1 q2 (by omega) q4
    · have := h5 u q1 q2 (by omega) q4
      omega
set_option maxRecDepth 100000 in
set_option maxHeartbeats 4000000 in
theorem lp2_Mo_findClash  (M0 : sx_M0) (hT : tw M0) (hr : rT M0) (n : Nat) (hn6 : 1 ≤ n ∧ n ≤ 6) {E : sx_E} (C : sx_C SC g_tbl "SiteChoiceModel" c_Mo_findClash E) (Rr : sx_Ret SC none (rmk 4 160) (fun r G' M' => G' = GL ∧ r = none ∧ ∃ cs, fcF M0 M' cs ∧ fcE M0 cs) E) (hnL : sx_nL E = 3) (hk : ∀ (M : sx_M0) (cs : Nat), fcF M0 M cs → fcO M0 (n + 1) cs → sx_X SC E (0, 0) GL M 86 [(1, sx_I (((n : Nat) : Int))), (0, sx_A (53))] []) : ∀ (nF : Nat) (s : Nat) (cs : Nat) (M : sx_M0), 2 ^ (M0 1 0).toNat - s < nF → fcF M0 M cs → fcS M0 n s cs → 1 ≤ s ∧ s ≤ 2 ^ (M0 1 0).toNat → sx_X SC E (0, 0) GL M 24 [(2, sx_I (((s : Nat) : Int))), (1, sx_I (((n : Nat) : Int))), (0, sx_A (53))] [] := by
  intro nF
  induction nF with
  | zero => intro s cs M h; omega
  | succ nF ih =>
    intro s cs M hn h h2 h3
    have g0 := hT.1
    have g1 := hT.2.1
    have hTM : tw M := tw_fr (fun a ha => h.1 a (by omega) (by omega) (by omega) (by omega)) hT
    have hrM : rT M := rT_fc (fun a ha hb => h.1 a (by omega) (by omega) (by omega) (by omega)) (h.2.1 0 (by decide)) (h.2.1 1 (by decide)) (h.2.1 11 (by decide)) hT hr
    have e1 : M 1 = M0 1 := h.1 1 (by decide) (by decide) (by decide) (by decide)
    have hp7 := pow_7 (M0 1 0).toNat (by omega)
    have hc64 := h.2.2.2
    refine sx_iload_n C 0 d_Mo_findClash_24 rfl rfl ?_
    refine sx_aload_n C 2 d_Mo_findClash_25 rfl rfl ?_
    refine sx_callV (n := 71) (As := []) (st := [sx_I (((s : Nat) : Int))]) C (ct_Mo_all _ _ _ M hTM hrM) rfl (by decide) rfl (cv_Mo_143 E C _ (by rw [Rr.2.2]; decide)) (Nat.le_of_ble_eq_true rfl) d_Mo_findClash_26 (by rw [Rr.2.2]; decide) (by decide) rfl rfl rfl (fun r26 G26 M26 hpo _ => ?_)
    obtain ⟨ee1, ee2, rfl⟩ := hpo
    rw [ee1, ee2, e1]
    show sx_X SC E (0, 0) GL M 29 [(2, sx_I (((s : Nat) : Int))), (1, sx_I (((n : Nat) : Int))), (0, sx_A (53))] [sx_I ((((2 ^ (M0 1 0).toNat - 1) : Nat) : Int)), sx_I (((s : Nat) : Int))]
    refine sx_icmp_gt C 86 ⟨by omega, by omega⟩ ⟨by omega, by omega⟩ d_Mo_findClash_29 (by decide) (fun c29 => ?_) (fun c29 => ?_)
    · refine sx_sub [1, 2] rfl ?_
      exact hk M cs h (fc_out (by omega) h2)
    · refine sx_iload_n C 0 d_Mo_findClash_32 rfl rfl ?_
      refine sx_callS (n := 71) (As := [sx_I (((s : Nat) : Int))]) (st := []) C (ct_Mo_size _ _ _ M s (by omega)) (cv_Mo_146 E C _ (by rw [Rr.2.2]; decide)) (Nat.le_of_ble_eq_true rfl) d_Mo_findClash_33 (by rw [Rr.2.2]; decide) (by decide) rfl rfl rfl (fun r33 G33 M33 hpo _ => ?_)
      obtain ⟨ee1, ee2, rfl⟩ := hpo
      rw [ee1, ee2]
      have hbs := bc_bd (M0 1 0).toNat (by omega) s (by omega)
      show sx_X SC E (0, 0) GL M 36 [(2, sx_I (((s : Nat) : Int))), (1, sx_I (((n : Nat) : Int))), (0, sx_A (53))] [sx_I (((bcS s : Nat) : Int))]
      refine sx_iload_n C 1 d_Mo_findClash_36 rfl rfl ?_
      refine sx_icmp_ne C 80 ⟨by omega, by omega⟩ ⟨by omega, by omega⟩ d_Mo_findClash_37 (by decide) (fun c37 => ?_) (fun c37 => ?_)
      · refine sx_iinc (lv' := [(2, sx_I (((s + 1 : Nat) : Int))), (1, sx_I (((n : Nat) : Int))), (0, sx_A (53))]) C 0 d_Mo_findClash_80 rfl (by rw [hnL]; decide) rfl ?_
        refine sx_goto C 24 d_Mo_findClash_83 (by decide) ?_
        refine sx_sub [0, 1, 2] rfl ?_
        exact ih (s + 1) cs M (by omega) h (fc_keep (by first | (left; omega) | (right; left; refine ⟨by omega, ?_⟩; rcases hb52 with ⟨z1, z2⟩ | ⟨z1, z2⟩; (exfalso; omega); exact z2)) h2) (by omega)
      · refine sx_aload_n C 2 d_Mo_findClash_40 rfl rfl ?_
        refine sx_geti C f_Mo_140 (by decide) rfl d_Mo_findClash_41 ?_
        rw [h.2.2.1]
        refine sx_if_eq C 58 ⟨by omega, by omega⟩ d_Mo_findClash_44 (by decide) (fun c44 => ?_) (fun c44 => ?_)
        · refine sx_aload_n C 2 d_Mo_findClash_58 rfl rfl ?_
          refine sx_iload_n C 0 d_Mo_findClash_59 rfl rfl ?_
          refine sx_iconst C d_Mo_findClash_60 ?_
          refine sx_callV (n := 71) (As := [sx_I (((s : Nat) : Int)), sx_I (0)]) (st := []) C (ct_Mo_askFor _ _ _ M hTM hrM s 0 (by omega) (by decide)) rfl (by decide) rfl (cv_Mo_153 E C _ (by rw [Rr.2.2]; decide)) (Nat.le_of_ble_eq_true rfl) d_Mo_findClash_61 (by rw [Rr.2.2]; decide) (by decide) rfl rfl rfl (fun r61 G61 M61 hpo _ => ?_)
          obtain ⟨ee1, ee2, rfl⟩ := hpo
          rw [ee1, ee2]
          have ap := ak_pre hTM hrM (u := s) (y := 0) (by decide)
          show sx_X SC E (0, 0) GL (akI M s 0 6) 64 [(2, sx_I (((s : Nat) : Int))), (1, sx_I (((n : Nat) : Int))), (0, sx_A (53))] []
          refine sx_aload_n C 2 d_Mo_findClash_64 rfl rfl ?_
          refine sx_iconst C d_Mo_findClash_65 ?_
          refine sx_iconst C d_Mo_findClash_66 ?_
          refine sx_callV (n := 71) (As := [sx_I (-1), sx_I (1)]) (st := []) C (ct_Mo_search _ _ _ (akI M s 0 6) ap.1 ap.2.1 ap.2.2.1 (-1) 1 ⟨by decide, by decide⟩ (Or.inr rfl) ap.2.2.2.1 ap.2.2.2.2) rfl (by decide) rfl (cv_Mo_157 E C _ (by rw [Rr.2.2]; decide)) (Nat.le_of_ble_eq_true rfl) d_Mo_findClash_67 (by rw [Rr.2.2]; decide) (by decide) rfl rfl rfl (fun r67 G67 M67 hpo _ => ?_)
          obtain ⟨ee1, x67, rfl, f67, b67⟩ := hpo
          rw [ee1]
          replace b67 := ak_bs hTM b67
          have xb := se_bd b67
          have frM : ∀ a, a ≤ 16 → M a = M0 a := fun a ha => h.1 a (by omega) (by omega) (by omega) (by omega)
          show sx_X SC E (0, 0) GL M67 70 [(2, sx_I (((s : Nat) : Int))), (1, sx_I (((n : Nat) : Int))), (0, sx_A (53))] [sx_J (x67)]
          refine sx_lconst C 0 rfl d_Mo_findClash_70 ?_
          refine sx_lcmp_ge C 80 ⟨by omega, by omega⟩ ⟨by omega, by omega⟩ d_Mo_findClash_71 d_Mo_findClash_72 (by decide) (fun c72 => ?_) (fun c72 => ?_)
          · refine sx_iinc (lv' := [(2, sx_I (((s + 1 : Nat) : Int))), (1, sx_I (((n : Nat) : Int))), (0, sx_A (53))]) C 0 d_Mo_findClash_80 rfl (by rw [hnL]; decide) rfl ?_
            refine sx_goto C 24 d_Mo_findClash_83 (by decide) ?_
            refine sx_sub [0, 1, 2] rfl ?_
            exact ih (s + 1) cs M67 (by omega) ⟨fun a p1 p2 p3 p4 => by rw [f67 a p2 p4, ak_ne p2 p3]; exact h.1 a p1 p2 p3 p4, fun b hb => by rw [f67 53 (by decide) (by decide), ak_ne (by decide) (by decide)]; exact h.2.1 b hb, by rw [f67 53 (by decide) (by decide), ak_ne (by decide) (by decide)]; exact h.2.2.1, h.2.2.2⟩ (fc_keep (Or.inr (Or.inr (fun y => absurd ((bs_np b67).mpr ((np_congr hT frM).mpr y)) (by omega)))) h2) (by omega)
          · refine sx_aload_n C 2 d_Mo_findClash_75 rfl rfl ?_
            refine sx_iload_n C 0 d_Mo_findClash_76 rfl rfl ?_
            refine sx_puti C p_Mo_140 (by decide) rfl d_Mo_findClash_77 ?_
            refine sx_iinc (lv' := [(2, sx_I (((s + 1 : Nat) : Int))), (1, sx_I (((n : Nat) : Int))), (0, sx_A (53))]) C 0 d_Mo_findClash_80 rfl (by rw [hnL]; decide) rfl ?_
            refine sx_goto C 24 d_Mo_findClash_83 (by decide) ?_
            refine sx_sub [0, 1, 2] rfl ?_
            exact ih (s + 1) s _ (by omega) ⟨fun a p1 p2 p3 p4 => by rw [sx_up_ne p1, f67 a p2 p4, ak_ne p2 p3]; exact h.1 a p1 p2 p3 p4, fun b hb => by rw [sx_up_slot hb, f67 53 (by decide) (by decide), ak_ne (by decide) (by decide)]; exact h.2.1 b hb, sx_up_at, by omega⟩ (fc_new (by omega) (by omega) (by omega) ((np_congr hT frM).mp ((bs_np b67).mp (by omega))) (by first | (left; omega) | (right; rcases hb52 with ⟨z1, z2⟩ | ⟨z1, z2⟩; (exact z2); (exfalso; omega))) h2) (by omega)
        · refine sx_iload_n C 0 d_Mo_findClash_47 rfl rfl ?_
          refine sx_aload_n C 2 d_Mo_findClash_48 rfl rfl ?_
          refine sx_geti C f_Mo_140 (by decide) rfl d_Mo_findClash_49 ?_
          rw [h.2.2.1]
          refine sx_callS (n := 71) (As := [sx_I (((s : Nat) : Int)), sx_I (((cs : Nat) : Int))]) (st := []) C (ct_Mo_isBefore _ _ _ M s cs (by omega) h.2.2.2) (cv_Mo_150 E C _ (by rw [Rr.2.2]; decide)) (Nat.le_of_ble_eq_true rfl) d_Mo_findClash_52 (by rw [Rr.2.2]; decide) (by decide) rfl rfl rfl (fun r52 G52 M52 hpo _ => ?_)
          obtain ⟨e1, e2, b52, rfl, hb52⟩ := hpo
          rw [e1, e2]
          show sx_X SC E (0, 0) GL M 55 [(2, sx_I (((s : Nat) : Int))), (1, sx_I (((n : Nat) : Int))), (0, sx_A (53))] [sx_I (b52)]
          refine sx_if_eq C 80 ⟨by omega, by omega⟩ d_Mo_findClash_55 (by decide) (fun c55 => ?_) (fun c55 => ?_)
          · refine sx_iinc (lv' := [(2, sx_I (((s + 1 : Nat) : Int))), (1, sx_I (((n : Nat) : Int))), (0, sx_A (53))]) C 0 d_Mo_findClash_80 rfl (by rw [hnL]; decide) rfl ?_
            refine sx_goto C 24 d_Mo_findClash_83 (by decide) ?_
            refine sx_sub [0, 1, 2] rfl ?_
            exact ih (s + 1) cs M (by omega) h (fc_keep (by first | (left; omega) | (right; left; refine ⟨by omega, ?_⟩; rcases hb52 with ⟨z1, z2⟩ | ⟨z1, z2⟩; (exfalso; omega); exact z2)) h2) (by omega)
          · refine sx_aload_n C 2 d_Mo_findClash_58 rfl rfl ?_
            refine sx_iload_n C 0 d_Mo_findClash_59 rfl rfl ?_
            refine sx_iconst C d_Mo_findClash_60 ?_
            refine sx_callV (n := 71) (As := [sx_I (((s : Nat) : Int)), sx_I (0)]) (st := []) C (ct_Mo_askFor _ _ _ M hTM hrM s 0 (by omega) (by decide)) rfl (by decide) rfl (cv_Mo_153 E C _ (by rw [Rr.2.2]; decide)) (Nat.le_of_ble_eq_true rfl) d_Mo_findClash_61 (by rw [Rr.2.2]; decide) (by decide) rfl rfl rfl (fun r61 G61 M61 hpo _ => ?_)
            obtain ⟨ee1, ee2, rfl⟩ := hpo
            rw [ee1, ee2]
            have ap := ak_pre hTM hrM (u := s) (y := 0) (by decide)
            show sx_X SC E (0, 0) GL (akI M s 0 6) 64 [(2, sx_I (((s : Nat) : Int))), (1, sx_I (((n : Nat) : Int))), (0, sx_A (53))] []
            refine sx_aload_n C 2 d_Mo_findClash_64 rfl rfl ?_
            refine sx_iconst C d_Mo_findClash_65 ?_
            refine sx_iconst C d_Mo_findClash_66 ?_
            refine sx_callV (n := 71) (As := [sx_I (-1), sx_I (1)]) (st := []) C (ct_Mo_search _ _ _ (akI M s 0 6) ap.1 ap.2.1 ap.2.2.1 (-1) 1 ⟨by decide, by decide⟩ (Or.inr rfl) ap.2.2.2.1 ap.2.2.2.2) rfl (by decide) rfl (cv_Mo_157 E C _ (by rw [Rr.2.2]; decide)) (Nat.le_of_ble_eq_true rfl) d_Mo_findClash_67 (by rw [Rr.2.2]; decide) (by decide) rfl rfl rfl (fun r67 G67 M67 hpo _ => ?_)
            obtain ⟨ee1, x67, rfl, f67, b67⟩ := hpo
            rw [ee1]
            replace b67 := ak_bs hTM b67
            have xb := se_bd b67
            have frM : ∀ a, a ≤ 16 → M a = M0 a := fun a ha => h.1 a (by omega) (by omega) (by omega) (by omega)
            show sx_X SC E (0, 0) GL M67 70 [(2, sx_I (((s : Nat) : Int))), (1, sx_I (((n : Nat) : Int))), (0, sx_A (53))] [sx_J (x67)]
            refine sx_lconst C 0 rfl d_Mo_findClash_70 ?_
            refine sx_lcmp_ge C 80 ⟨by omega, by omega⟩ ⟨by omega, by omega⟩ d_Mo_findClash_71 d_Mo_findClash_72 (by decide) (fun c72 => ?_) (fun c72 => ?_)
            · refine sx_iinc (lv' := [(2, sx_I (((s + 1 : Nat) : Int))), (1, sx_I (((n : Nat) : Int))), (0, sx_A (53))]) C 0 d_Mo_findClash_80 rfl (by rw [hnL]; decide) rfl ?_
              refine sx_goto C 24 d_Mo_findClash_83 (by decide) ?_
              refine sx_sub [0, 1, 2] rfl ?_
              exact ih (s + 1) cs M67 (by omega) ⟨fun a p1 p2 p3 p4 => by rw [f67 a p2 p4, ak_ne p2 p3]; exact h.1 a p1 p2 p3 p4, fun b hb => by rw [f67 53 (by decide) (by decide), ak_ne (by decide) (by decide)]; exact h.2.1 b hb, by rw [f67 53 (by decide) (by decide), ak_ne (by decide) (by decide)]; exact h.2.2.1, h.2.2.2⟩ (fc_keep (Or.inr (Or.inr (fun y => absurd ((bs_np b67).mpr ((np_congr hT frM).mpr y)) (by omega)))) h2) (by omega)
            · refine sx_aload_n C 2 d_Mo_findClash_75 rfl rfl ?_
              refine sx_iload_n C 0 d_Mo_findClash_76 rfl rfl ?_
              refine sx_puti C p_Mo_140 (by decide) rfl d_Mo_findClash_77 ?_
              refine sx_iinc (lv' := [(2, sx_I (((s + 1 : Nat) : Int))), (1, sx_I (((n : Nat) : Int))), (0, sx_A (53))]) C 0 d_Mo_findClash_80 rfl (by rw [hnL]; decide) rfl ?_
              refine sx_goto C 24 d_Mo_findClash_83 (by decide) ?_
              refine sx_sub [0, 1, 2] rfl ?_
              exact ih (s + 1) s _ (by omega) ⟨fun a p1 p2 p3 p4 => by rw [sx_up_ne p1, f67 a p2 p4, ak_ne p2 p3]; exact h.1 a p1 p2 p3 p4, fun b hb => by rw [sx_up_slot hb, f67 53 (by decide) (by decide), ak_ne (by decide) (by decide)]; exact h.2.1 b hb, sx_up_at, by omega⟩ (fc_new (by omega) (by omega) (by omega) ((np_congr hT frM).mp ((bs_np b67).mp (by omega))) (by first | (left; omega) | (right; rcases hb52 with ⟨z1, z2⟩ | ⟨z1, z2⟩; (exact z2); (exfalso; omega))) h2) (by omega)
set_option maxRecDepth 100000 in
set_option maxHeartbeats 4000000 in
theorem lp_Mo_findClash  (M0 : sx_M0) (hT : tw M0) (hr : rT M0) {E : sx_E} (C : sx_C SC g_tbl "SiteChoiceModel" c_Mo_findClash E) (Rr : sx_Ret SC none (rmk 4 160) (fun r G' M' => G' = GL ∧ r = none ∧ ∃ cs, fcF M0 M' cs ∧ fcE M0 cs) E) (hnL : sx_nL E = 3) : ∀ (nF : Nat) (n : Nat) (cs : Nat) (M : sx_M0), (M0 1 0).toNat + 1 - n < nF → fcF M0 M cs → fcO M0 n cs → 1 ≤ n ∧ n ≤ (M0 1 0).toNat + 1 → sx_X SC E (0, 0) GL M 7 [(1, sx_I (((n : Nat) : Int))), (0, sx_A (53))] [] := by
  intro nF
  induction nF with
  | zero => intro n cs M h; omega
  | succ nF ih =>
    intro n cs M hn h h2 h3
    have g0 := hT.1
    have g1 := hT.2.1
    have hTM : tw M := tw_fr (fun a ha => h.1 a (by omega) (by omega) (by omega) (by omega)) hT
    have hrM : rT M := rT_fc (fun a ha hb => h.1 a (by omega) (by omega) (by omega) (by omega)) (h.2.1 0 (by decide)) (h.2.1 1 (by decide)) (h.2.1 11 (by decide)) hT hr
    have e1 : M 1 = M0 1 := h.1 1 (by decide) (by decide) (by decide) (by decide)
    have hp7 := pow_7 (M0 1 0).toNat (by omega)
    have hc64 := h.2.2.2
    refine sx_iload_n C 0 d_Mo_findClash_7 rfl rfl ?_
    refine sx_aload_n C 1 d_Mo_findClash_8 rfl rfl ?_
    refine sx_geti C f_Mo_73 (by decide) rfl d_Mo_findClash_9 ?_
    rw [show M 53 0 = M0 1 0 from by rw [h.2.1 0 (by decide)]; exact hr.1]
    refine sx_icmp_gt C 92 ⟨by omega, by omega⟩ ⟨by omega, by omega⟩ d_Mo_findClash_12 (by decide) (fun c12 => ?_) (fun c12 => ?_)
    · refine sx_return C Rr rfl d_Mo_findClash_92 ?_
      refine ⟨rfl, rfl, cs, h, ?_⟩
      rcases h2 with ⟨y1, y2⟩ | ⟨y1, y2⟩
      · first | (exfalso; omega) | exact Or.inl ⟨y1, fun u q1 q2 => y2 u q1 q2 (by have := bc_bd (M0 1 0).toNat (by omega) u q2; omega)⟩
      · exact y2
    · refine sx_aload_n C 1 d_Mo_findClash_15 rfl rfl ?_
      refine sx_geti C f_Mo_140 (by decide) rfl d_Mo_findClash_16 ?_
      have hcs := h.2.2.2
      rw [h.2.2.1]
      refine sx_if_ne C 92 ⟨by omega, by omega⟩ d_Mo_findClash_19 (by decide) (fun c19 => ?_) (fun c19 => ?_)
      · refine sx_return C Rr rfl d_Mo_findClash_92 ?_
        refine ⟨rfl, rfl, cs, h, ?_⟩
        rcases h2 with ⟨y1, y2⟩ | ⟨y1, y2⟩
        · first | (exfalso; omega) | exact Or.inl ⟨y1, fun u q1 q2 => y2 u q1 q2 (by have := bc_bd (M0 1 0).toNat (by omega) u q2; omega)⟩
        · exact y2
      · refine sx_iconst C d_Mo_findClash_22 ?_
        refine sx_istore_n (lv' := [(2, sx_I (1)), (1, sx_I (((n : Nat) : Int))), (0, sx_A (53))]) C d_Mo_findClash_23 rfl (by rw [hnL]; decide) rfl ?_
        refine sx_sub [0, 1, 2] rfl ?_
        refine lp2_Mo_findClash M0 hT hr n (by omega) C Rr hnL (fun M2 cs2 hx2 hy2 => ?_) _ 1 cs M (Nat.lt_succ_self _) h ?_ (by omega)
        · refine sx_iinc (lv' := [(1, sx_I (((n + 1 : Nat) : Int))), (0, sx_A (53))]) C 0 d_Mo_findClash_86 rfl (by rw [hnL]; decide) rfl ?_
          refine sx_goto C 7 d_Mo_findClash_89 (by decide) ?_
          refine sx_sub [0, 1] rfl ?_
          exact ih (n + 1) cs2 M2 (by omega) hx2 hy2 (by omega)
        · rcases h2 with ⟨y1, y2⟩ | ⟨y1, y2⟩
          · exact ⟨y2, Or.inl ⟨y1, fun u q1 q2 => by omega⟩⟩
          · exfalso; omega
set_option maxRecDepth 100000 in
set_option maxHeartbeats 4000000 in
theorem ct_Mo_findClash (l : Launch) (D : va_G) (tc : Nat → ClassId) (M : sx_M0) (hT : tw M) (hr : rT M) : sx_Met SC l D tc y_Mo_findClash w_Mo_findClash (rmk 4 160) [sx_A (53)] GL M (fun r G' M' => G' = GL ∧ r = none ∧ ∃ cs, fcF M M' cs ∧ fcE M cs) := by
  refine sx_enter (by decide) rfl (Nat.le_of_ble_eq_true rfl) (Ts := g_tbl) (fun _ h => List.mem_cons_of_mem _ h) (fun E C Rr hnm hnL => ?_)
  refine sx_aload_n C 0 d_Mo_findClash_0 rfl rfl ?_
  refine sx_iconst C d_Mo_findClash_1 ?_
  refine sx_puti C p_Mo_140 (by decide) rfl d_Mo_findClash_2 ?_
  refine sx_iconst C d_Mo_findClash_5 ?_
  refine sx_istore_n (lv' := [(1, sx_I (1)), (0, sx_A (53))]) C d_Mo_findClash_6 rfl (by rw [hnL]; decide) rfl ?_
  refine sx_sub [0, 1] rfl ?_
  exact lp_Mo_findClash M hT hr C Rr hnL _ 1 0 _ (Nat.lt_succ_self _) ⟨fun a p1 _ _ _ => sx_up_ne p1, fun b hb => sx_up_slot hb, sx_up_at, by decide⟩ (Or.inl ⟨rfl, fun u q1 q2 q3 => by have := bc_pos u (by have := pow_7 (M 1 0).toNat (by have := hT.1; omega); omega) q1; omega⟩) (by omega)
set_option maxRecDepth 100000 in
set_option maxHeartbeats 4000000 in
theorem ct_Mo_gain (l : Launch) (D : va_G) (tc : Nat → ClassId) (M : sx_M0) (hT : tw M) (hr : rT M) (p : Int) (hp : sx_r32 p) : sx_Met SC l D tc y_Mo_gain w_Mo_gain (rmk 4 160) [sx_A (53), sx_I (p)] GL M (fun r G' M' => G' = GL ∧ ∃ x : Int, r = some (sx_J x) ∧ (∀ a, a ≠ 65 → a ≠ 66 → a ≠ 67 → M' a = M a) ∧ ((¬ (0 ≤ p ∧ p < M 1 1) ∧ x = -1) ∨ (0 ≤ p ∧ p < M 1 1 ∧ ∃ y b, bsR M (akS M (2 ^ (M 1 0).toNat - 1) 0) (-1) 0 y (fun _ => True) b ∧ ((y < 0 ∧ x = -1) ∨ (0 ≤ y ∧ ∃ z b2, bsR M (akS M (2 ^ (M 1 0).toNat - 1) 0) p 0 z (fun _ => True) b2 ∧ x = y - z))))) := by
  refine sx_enter (by decide) rfl (Nat.le_of_ble_eq_true rfl) (Ts := g_tbl) (fun _ h => List.mem_cons_of_mem _ h) (fun E C Rr hnm hnL => ?_)
  have g0 := hT.1
  have g1 := hT.2.1
  have r1 := hr.2.1
  have hp7 := pow_7 (M 1 0).toNat (by omega)
  refine sx_aload_n C 0 d_Mo_gain_0 rfl rfl ?_
  refine sx_iload_n C 1 d_Mo_gain_1 rfl rfl ?_
  refine sx_callV (n := 71) (As := [sx_I (p)]) (st := []) C (ct_Mo_isPlace _ _ _ M (rT_P hT hr) p hp) rfl (by decide) rfl (cv_Mo_100 E C _ (by rw [Rr.2.2]; decide)) (Nat.le_of_ble_eq_true rfl) d_Mo_gain_2 (by rw [Rr.2.2]; decide) (by decide) rfl rfl rfl (fun r2 G2 M2 hpo _ => ?_)
  obtain ⟨e1, e2, b2, rfl, hb2⟩ := hpo
  rw [e1, e2]
  show sx_X SC E (0, 0) GL M 5 [(0, sx_A (53)), (1, sx_I (p))] [sx_I (b2)]
  refine sx_if_ne C 12 ⟨by omega, by omega⟩ d_Mo_gain_5 (by decide) (fun c5 => ?_) (fun c5 => ?_)
  · refine sx_aload_n C 0 d_Mo_gain_12 rfl rfl ?_
    refine sx_aload_n C 0 d_Mo_gain_13 rfl rfl ?_
    refine sx_callV (n := 71) (As := []) (st := [sx_A (53)]) C (ct_Mo_all _ _ _ M hT hr) rfl (by decide) rfl (cv_Mo_143 E C _ (by rw [Rr.2.2]; decide)) (Nat.le_of_ble_eq_true rfl) d_Mo_gain_14 (by rw [Rr.2.2]; decide) (by decide) rfl rfl rfl (fun r14 G14 M14 hpo _ => ?_)
    obtain ⟨ee1, ee2, rfl⟩ := hpo
    rw [ee1, ee2]
    show sx_X SC E (0, 0) GL M 17 [(0, sx_A (53)), (1, sx_I (p))] [sx_I ((((2 ^ (M 1 0).toNat - 1) : Nat) : Int)), sx_A (53)]
    refine sx_iconst C d_Mo_gain_17 ?_
    refine sx_callV (n := 71) (As := [sx_I ((((2 ^ (M 1 0).toNat - 1) : Nat) : Int)), sx_I (0)]) (st := []) C (ct_Mo_askFor _ _ _ M hT hr (2 ^ (M 1 0).toNat - 1) 0 (by omega) (by decide)) rfl (by decide) rfl (cv_Mo_153 E C _ (by rw [Rr.2.2]; decide)) (Nat.le_of_ble_eq_true rfl) d_Mo_gain_18 (by rw [Rr.2.2]; decide) (by decide) rfl rfl rfl (fun r18 G18 M18 hpo _ => ?_)
    obtain ⟨ee1, ee2, rfl⟩ := hpo
    rw [ee1, ee2]
    have ap := ak_pre hT hr (u := (2 ^ (M 1 0).toNat - 1)) (y := 0) (by decide)
    show sx_X SC E (0, 0) GL (akI M (2 ^ (M 1 0).toNat - 1) 0 6) 21 [(0, sx_A (53)), (1, sx_I (p))] []
    refine sx_aload_n C 0 d_Mo_gain_21 rfl rfl ?_
    refine sx_iconst C d_Mo_gain_22 ?_
    refine sx_iconst C d_Mo_gain_23 ?_
    refine sx_callV (n := 71) (As := [sx_I (-1), sx_I (0)]) (st := []) C (ct_Mo_search _ _ _ (akI M (2 ^ (M 1 0).toNat - 1) 0 6) ap.1 ap.2.1 ap.2.2.1 (-1) 0 ⟨by decide, by decide⟩ (Or.inl rfl) ap.2.2.2.1 ap.2.2.2.2) rfl (by decide) rfl (cv_Mo_157 E C _ (by rw [Rr.2.2]; decide)) (Nat.le_of_ble_eq_true rfl) d_Mo_gain_24 (by rw [Rr.2.2]; decide) (by decide) rfl rfl rfl (fun r24 G24 M24 hpo _ => ?_)
    obtain ⟨ee1, x24, rfl, f24, b24⟩ := hpo
    rw [ee1]
    replace b24 := ak_bs hT b24
    have xb := se_bd b24
    have fr24 : ∀ a, a ≤ 62 → M24 a = M a := fun a ha => by rw [f24 a (by omega) (by omega), ak_ne (by omega) (by omega)]
    have hT24 : tw M24 := tw_fr (fun a ha => fr24 a (by omega)) hT
    have hr24 : rT M24 := rT_fr fr24 hT hr
    show sx_X SC E (0, 0) GL M24 27 [(0, sx_A (53)), (1, sx_I (p))] [sx_J (x24)]
    refine sx_lstore_n (lv' := [(2, sx_J (x24)), (0, sx_A (53)), (1, sx_I (p))]) C d_Mo_gain_27 rfl (by rw [hnL]; decide) rfl ?_
    refine sx_lload_n C 0 d_Mo_gain_28 rfl rfl ?_
    refine sx_lconst C 0 rfl d_Mo_gain_29 ?_
    refine sx_lcmp_ge C 38 ⟨by omega, by omega⟩ ⟨by omega, by omega⟩ d_Mo_gain_30 d_Mo_gain_31 (by decide) (fun c31 => ?_) (fun c31 => ?_)
    · refine sx_aload_n C 1 d_Mo_gain_38 rfl rfl ?_
      refine sx_aload_n C 1 d_Mo_gain_39 rfl rfl ?_
      refine sx_callV (n := 71) (As := []) (st := [sx_A (53)]) C (ct_Mo_all _ _ _ M24 hT24 hr24) rfl (by decide) rfl (cv_Mo_143 E C _ (by rw [Rr.2.2]; decide)) (Nat.le_of_ble_eq_true rfl) d_Mo_gain_40 (by rw [Rr.2.2]; decide) (by decide) rfl rfl rfl (fun r40 G40 M40 hpo _ => ?_)
      obtain ⟨ee1, ee2, rfl⟩ := hpo
      rw [ee1, ee2, fr24 1 (by decide)]
      show sx_X SC E (0, 0) GL M24 43 [(2, sx_J (x24)), (0, sx_A (53)), (1, sx_I (p))] [sx_I ((((2 ^ (M 1 0).toNat - 1) : Nat) : Int)), sx_A (53)]
      refine sx_iconst C d_Mo_gain_43 ?_
      refine sx_callV (n := 71) (As := [sx_I ((((2 ^ (M 1 0).toNat - 1) : Nat) : Int)), sx_I (0)]) (st := []) C (ct_Mo_askFor _ _ _ M24 hT24 hr24 (2 ^ (M 1 0).toNat - 1) 0 (by omega) (by decide)) rfl (by decide) rfl (cv_Mo_153 E C _ (by rw [Rr.2.2]; decide)) (Nat.le_of_ble_eq_true rfl) d_Mo_gain_44 (by rw [Rr.2.2]; decide) (by decide) rfl rfl rfl (fun r44 G44 M44 hpo _ => ?_)
      obtain ⟨ee1, ee2, rfl⟩ := hpo
      rw [ee1, ee2]
      have ap2 := ak_pre hT24 hr24 (u := (2 ^ (M 1 0).toNat - 1)) (y := 0) (by decide)
      show sx_X SC E (0, 0) GL (akI M24 (2 ^ (M 1 0).toNat - 1) 0 6) 47 [(2, sx_J (x24)), (0, sx_A (53)), (1, sx_I (p))] []
      refine sx_lload_n C 0 d_Mo_gain_47 rfl rfl ?_
      refine sx_aload_n C 1 d_Mo_gain_48 rfl rfl ?_
      refine sx_iload_n C 2 d_Mo_gain_49 rfl rfl ?_
      refine sx_iconst C d_Mo_gain_50 ?_
      refine sx_callV (n := 71) (As := [sx_I (p), sx_I (0)]) (st := [sx_J (x24)]) C (ct_Mo_search _ _ _ (akI M24 (2 ^ (M 1 0).toNat - 1) 0 6) ap2.1 ap2.2.1 ap2.2.2.1 p 0 ⟨by omega, by omega⟩ (Or.inl rfl) ap2.2.2.2.1 ap2.2.2.2.2) rfl (by decide) rfl (cv_Mo_157 E C _ (by rw [Rr.2.2]; decide)) (Nat.le_of_ble_eq_true rfl) d_Mo_gain_51 (by rw [Rr.2.2]; decide) (by decide) rfl rfl rfl (fun r51 G51 M51 hpo _ => ?_)
      obtain ⟨ee1, x51, rfl, f51, b51⟩ := hpo
      rw [ee1]
      replace b51 := ak_bs hT24 b51
      show sx_X SC E (0, 0) GL M51 54 [(2, sx_J (x24)), (0, sx_A (53)), (1, sx_I (p))] [sx_J (x51), sx_J (x24)]
      refine sx_lsub C d_Mo_gain_54 ?_
      refine sx_lreturn C Rr rfl d_Mo_gain_55 ?_
      refine ⟨rfl, _, rfl, fun a p1 p2 p3 => by rw [f51 a p1 p3, ak_ne p1 p2, f24 a p1 p3, ak_ne p1 p2], Or.inr ⟨by omega, by omega, x24, _, b24, Or.inr ⟨by omega, x51, M51 67, ?_, rfl⟩⟩⟩
      exact bsR_congr (by omega) (fun a ha => fr24 a (by omega)) (fun d hd => ak_congr (fun a ha => fr24 a (by omega))) b51
    · refine sx_ldc2 (v := (-1)) C (-1) (tb_ 526 (by decide +kernel) rfl) (by decide) d_Mo_gain_34 ?_
      refine sx_lreturn C Rr rfl d_Mo_gain_37 ?_
      exact ⟨rfl, -1, rfl, fun a p1 p2 p3 => by rw [f24 a p1 p3, ak_ne p1 p2], Or.inr ⟨by omega, by omega, x24, _, b24, Or.inl ⟨by omega, rfl⟩⟩⟩
  · refine sx_ldc2 (v := (-1)) C (-1) (tb_ 526 (by decide +kernel) rfl) (by decide) d_Mo_gain_8 ?_
    refine sx_lreturn C Rr rfl d_Mo_gain_11 ?_
    exact ⟨rfl, -1, rfl, fun _ _ _ _ => rfl, Or.inl ⟨by omega, rfl⟩⟩
abbrev rn2 (M : sx_M0) : sx_M0 := sx_up (sx_up (sx_up M 53 12 0) 53 15 0) 53 16 0
theorem rn2_ne {M : sx_M0} {a : Nat} (h : a ≠ 53) : rn2 M a = M a := (sx_up_ne h).trans ((sx_up_ne h).trans (sx_up_ne h))
theorem rn2_sl {M : sx_M0} {b : Nat} (h1 : b ≠ 12) (h2 : b ≠ 15) (h3 : b ≠ 16) : rn2 M 53 b = M 53 b := (sx_up_slot h3).trans ((sx_up_slot h2).trans (sx_up_slot h1))
def mrP (M M' : sx_M0) (x r : Int) : Prop := (x < 0 ∧ r = -1 ∧ M' = M) ∨ (0 ≤ x ∧ x < wyS M (M 1 0).toNat ∧ r = 1 ∧ M' = rn2 M) ∨ (0 ≤ x ∧ wyS M (M 1 0).toNat ≤ x ∧ ∃ s b, bsR M (akS M (2 ^ (M 1 0).toNat - 1) 0) (-1) 0 s (fun _ => True) b ∧ ((s < 0 ∧ r = 2 ∧ (∃ cs : Nat, fcE M cs ∧ M' 53 16 = (cs : Int) ∧ cs < 64) ∧ (∀ a, a ≠ 53 → a ≠ 65 → a ≠ 66 → a ≠ 67 → M' a = M a) ∧ (∀ j, j ≠ 16 → M' 53 j = rn2 M 53 j)) ∨ (0 ≤ s ∧ r = 0 ∧ (∀ d, d < 6 → M' 63 d = b d) ∧ (∀ a, a ≠ 53 → a ≠ 63 → a ≠ 65 → a ≠ 66 → a ≠ 67 → M' a = M a) ∧ M' 53 12 = 1 ∧ M' 53 15 = 1 ∧ M' 53 14 = s ∧ M' 53 16 = 0 ∧ (∀ j, j ≠ 12 → j ≠ 14 → j ≠ 15 → j ≠ 16 → M' 53 j = M 53 j))))
theorem fcE_congr {M M' : sx_M0} (hT : tw M) (hM : ∀ a, a ≤ 16 → M' a = M a) {cs : Nat} : fcE M' cs → fcE M cs := by
  intro h
  unfold fcE at h ⊢
  rw [hM 1 (by decide)] at h
  rcases h with ⟨h1, h2⟩ | ⟨h1, h2, h3, h4⟩
  · exact Or.inl ⟨h1, fun u q1 q2 => fun y => h2 u q1 q2 ((np_congr hT hM).mpr y)⟩
  · exact Or.inr ⟨h1, h2, (np_congr hT hM).mp h3, fun u q1 q2 q3 => fun y => h4 u q1 q2 q3 ((np_congr hT hM).mpr y)⟩
theorem wy_congr {M M' : sx_M0} (hM : ∀ a, a ≤ 16 → M' a = M a) : ∀ n, n ≤ 6 → wyS M' n = wyS M n
  | 0, _ => rfl
  | n + 1, h => by
    have ih := wy_congr hM n (by omega)
    have ec : ∀ k, crS M' n k = crS M n k := fun k => by
      induction k with
      | zero => rfl
      | succ k ik =>
        show crS M' n k + (if rcS M' n k = -1 then 0 else 1) = crS M n k + (if rcS M n k = -1 then 0 else 1)
        rw [ik, rc_fr hM (by omega)]
    show (if 0 < M' 2 n then wyS M' n * crS M' n (M' 1 1).toNat else wyS M' n) = (if 0 < M 2 n then wyS M n * crS M n (M 1 1).toNat else wyS M n)
    rw [ih, ec, hM 1 (by decide), hM 2 (by decide)]
set_option maxRecDepth 100000 in
set_option maxHeartbeats 4000000 in
theorem lpc_run  (M M0 : sx_M0) (s x : Int) {E : sx_E} (C : sx_C SC g_tbl "SiteChoiceModel" c_Mo_run E) (Rr : sx_Ret SC (some .int) (rmk 5 200) (fun r G' M' => G' = GL ∧ ∃ q : Int, r = some (sx_I q) ∧ mrP M0 M' x q) E) (hnL : sx_nL E = 6) (hk : mrP M0 (tfS M 63 6 (M 67)) x 0) : ∀ (nF : Nat) (j : Nat), 6 - j < nF → j ≤ 6 → sx_X SC E (0, 0) GL (tfS M 63 j (M 67)) 80 [(5, sx_I (((j : Nat) : Int))), (3, sx_J (s)), (0, sx_A (53)), (1, sx_J (x))] [] := by
  intro nF
  induction nF with
  | zero => intro j h; omega
  | succ nF ih =>
    intro j hn h1
    refine sx_iload C 0 d_Mo_run_80 rfl ?_
    refine sx_bipush C d_Mo_run_82 (by decide) ?_
    refine sx_icmp_ge C 107 ⟨by omega, by omega⟩ ⟨by omega, by omega⟩ d_Mo_run_84 (by decide) (fun c84 => ?_) (fun c84 => ?_)
    · refine sx_iconst C d_Mo_run_107 ?_
      refine sx_ireturn C Rr rfl d_Mo_run_108 ?_
      rw [show j = 6 by omega]
      exact ⟨rfl, 0, rfl, hk⟩
    · refine sx_aload_n C 2 d_Mo_run_87 rfl rfl ?_
      refine sx_getr C f_Mo_44 63 (by decide) rfl rfl d_Mo_run_88 ?_
      refine sx_iload C 0 d_Mo_run_91 rfl ?_
      refine sx_aload_n C 2 d_Mo_run_93 rfl rfl ?_
      refine sx_getr C f_Mo_57 67 (by decide) rfl rfl d_Mo_run_94 ?_
      refine sx_iload C 0 d_Mo_run_97 rfl ?_
      refine sx_iaload C j (by decide) rfl rfl rfl (by omega) (by decide) d_Mo_run_99 ?_
      rw [show tfS M 63 j (M 67) 67 j = M 67 j from congrFun (tfS_ne (by decide)) j]
      refine sx_iastore C j (by decide) rfl rfl rfl (by omega) (by decide) d_Mo_run_100 ?_
      refine sx_iinc (lv' := [(5, sx_I (((j + 1 : Nat) : Int))), (3, sx_J (s)), (0, sx_A (53)), (1, sx_J (x))]) C 0 d_Mo_run_101 rfl (by rw [hnL]; decide) rfl ?_
      refine sx_goto C 80 d_Mo_run_104 (by decide) ?_
      rw [tfS_succ M 63 j (M 67) rfl]
      refine sx_sub [0, 1, 2, 3] rfl ?_
      exact ih (j + 1) (by omega) (by omega)
set_option maxRecDepth 100000 in
set_option maxHeartbeats 4000000 in
theorem ct_Mo_run (l : Launch) (D : va_G) (tc : Nat → ClassId) (M : sx_M0) (hT : tw M) (hr : rT M) (x : Int) (hx : sx_r64 x) : sx_Met SC l D tc y_Mo_run w_Mo_run (rmk 5 200) [sx_A (53), sx_J (x)] GL M (fun r G' M' => G' = GL ∧ ∃ q : Int, r = some (sx_I q) ∧ mrP M M' x q) := by
  refine sx_enter (by decide) rfl (Nat.le_of_ble_eq_true rfl) (Ts := g_tbl) (fun _ h => List.mem_cons_of_mem _ h) (fun E C Rr hnm hnL => ?_)
  have g0 := hT.1
  have hp7 := pow_7 (M 1 0).toNat (by omega)
  refine sx_lload_n C 1 d_Mo_run_0 rfl rfl ?_
  refine sx_lconst C 0 rfl d_Mo_run_1 ?_
  refine sx_lcmp_ge C 8 ⟨by omega, by omega⟩ ⟨by omega, by omega⟩ d_Mo_run_2 d_Mo_run_3 (by decide) (fun c3 => ?_) (fun c3 => ?_)
  · refine sx_aload_n C 0 d_Mo_run_8 rfl rfl ?_
    refine sx_iconst C d_Mo_run_9 ?_
    refine sx_putz C p_Mo_161 (by omega) (by decide) rfl d_Mo_run_10 ?_
    refine sx_aload_n C 0 d_Mo_run_13 rfl rfl ?_
    refine sx_iconst C d_Mo_run_14 ?_
    refine sx_putz C p_Mo_86 (by omega) (by decide) rfl d_Mo_run_15 ?_
    refine sx_aload_n C 0 d_Mo_run_18 rfl rfl ?_
    refine sx_iconst C d_Mo_run_19 ?_
    refine sx_puti C p_Mo_140 (by decide) rfl d_Mo_run_20 ?_
    have fr : ∀ a, a ≠ 53 → rn2 M a = M a := fun a ha => rn2_ne ha
    have hT1 : tw (rn2 M) := tw_fr (fun a ha => fr a (by omega)) hT
    have hr1 : rT (rn2 M) := rT_fc (fun a ha hb => fr a hb) (rn2_sl (by decide) (by decide) (by decide)) (rn2_sl (by decide) (by decide) (by decide)) (rn2_sl (by decide) (by decide) (by decide)) hT hr
    show sx_X SC E (0, 0) GL (rn2 M) 23 [(0, sx_A (53)), (1, sx_J (x))] []
    refine sx_aload_n C 0 d_Mo_run_23 rfl rfl ?_
    refine sx_callV (n := 71) (As := []) (st := []) C (ct_Mo_ways _ _ _ (rn2 M) hT1 hr1) rfl (by decide) rfl (cv_Mo_164 E C _ (by rw [Rr.2.2]; decide)) (Nat.le_of_ble_eq_true rfl) d_Mo_run_24 (by rw [Rr.2.2]; decide) (by decide) rfl rfl rfl (fun r24 G24 M24 hpo _ => ?_)
    obtain ⟨ee1, ee2, rfl⟩ := hpo
    rw [ee1, ee2, fr 1 (by decide), wy_congr (fun a ha => fr a (by omega)) _ (by omega)]
    have hw := wyS_bd hT (M 1 0).toNat (by omega)
    have hw0 := wyS_nn M (M 1 0).toNat
    have hw2 : (5 : Int) ^ (M 1 0).toNat ≤ 15625 := pw5 _ (by omega)
    show sx_X SC E (0, 0) GL (rn2 M) 27 [(0, sx_A (53)), (1, sx_J (x))] [sx_J (wyS M (M 1 0).toNat)]
    refine sx_lload_n C 1 d_Mo_run_27 rfl rfl ?_
    refine sx_lcmp_le C 34 ⟨by omega, by omega⟩ ⟨by omega, by omega⟩ d_Mo_run_28 d_Mo_run_29 (by decide) (fun c29 => ?_) (fun c29 => ?_)
    · refine sx_aload_n C 0 d_Mo_run_34 rfl rfl ?_
      refine sx_aload_n C 0 d_Mo_run_35 rfl rfl ?_
      refine sx_callV (n := 71) (As := []) (st := [sx_A (53)]) C (ct_Mo_all _ _ _ (rn2 M) hT1 hr1) rfl (by decide) rfl (cv_Mo_143 E C _ (by rw [Rr.2.2]; decide)) (Nat.le_of_ble_eq_true rfl) d_Mo_run_36 (by rw [Rr.2.2]; decide) (by decide) rfl rfl rfl (fun r36 G36 M36 hpo _ => ?_)
      obtain ⟨ee1, ee2, rfl⟩ := hpo
      rw [ee1, ee2, fr 1 (by decide)]
      show sx_X SC E (0, 0) GL (rn2 M) 39 [(0, sx_A (53)), (1, sx_J (x))] [sx_I ((((2 ^ (M 1 0).toNat - 1) : Nat) : Int)), sx_A (53)]
      refine sx_iconst C d_Mo_run_39 ?_
      refine sx_callV (n := 71) (As := [sx_I ((((2 ^ (M 1 0).toNat - 1) : Nat) : Int)), sx_I (0)]) (st := []) C (ct_Mo_askFor _ _ _ (rn2 M) hT1 hr1 (2 ^ (M 1 0).toNat - 1) 0 (by omega) (by decide)) rfl (by decide) rfl (cv_Mo_153 E C _ (by rw [Rr.2.2]; decide)) (Nat.le_of_ble_eq_true rfl) d_Mo_run_40 (by rw [Rr.2.2]; decide) (by decide) rfl rfl rfl (fun r40 G40 M40 hpo _ => ?_)
      obtain ⟨ee1, ee2, rfl⟩ := hpo
      rw [ee1, ee2]
      have ap := ak_pre hT1 hr1 (u := (2 ^ (M 1 0).toNat - 1)) (y := 0) (by decide)
      show sx_X SC E (0, 0) GL (akI (rn2 M) (2 ^ (M 1 0).toNat - 1) 0 6) 43 [(0, sx_A (53)), (1, sx_J (x))] []
      refine sx_aload_n C 0 d_Mo_run_43 rfl rfl ?_
      refine sx_iconst C d_Mo_run_44 ?_
      refine sx_iconst C d_Mo_run_45 ?_
      refine sx_callV (n := 71) (As := [sx_I (-1), sx_I (0)]) (st := []) C (ct_Mo_search _ _ _ (akI (rn2 M) (2 ^ (M 1 0).toNat - 1) 0 6) ap.1 ap.2.1 ap.2.2.1 (-1) 0 ⟨by decide, by decide⟩ (Or.inl rfl) ap.2.2.2.1 ap.2.2.2.2) rfl (by decide) rfl (cv_Mo_157 E C _ (by rw [Rr.2.2]; decide)) (Nat.le_of_ble_eq_true rfl) d_Mo_run_46 (by rw [Rr.2.2]; decide) (by decide) rfl rfl rfl (fun r46 G46 M46 hpo _ => ?_)
      obtain ⟨ee1, x46, rfl, f46, b46⟩ := hpo
      rw [ee1]
      replace b46 := bsR_congr (by omega) (fun a ha => fr a (by omega)) (fun d hd => ak_congr (fun a ha => fr a (by omega))) (ak_bs hT1 b46)
      have xb := se_bd b46
      have fr46 : ∀ a, a ≤ 62 → a ≠ 53 → M46 a = M a := fun a ha hb => by rw [f46 a (by omega) (by omega), ak_ne (by omega) (by omega)]; exact fr a hb
      have e53 : M46 53 = rn2 M 53 := by rw [f46 53 (by decide) (by decide), ak_ne (by decide) (by decide)]
      have hT46 : tw M46 := tw_fr (fun a ha => fr46 a (by omega) (by omega)) hT
      have hr46 : rT M46 := rT_fc fr46 (by rw [e53]; exact rn2_sl (by decide) (by decide) (by decide)) (by rw [e53]; exact rn2_sl (by decide) (by decide) (by decide)) (by rw [e53]; exact rn2_sl (by decide) (by decide) (by decide)) hT hr
      show sx_X SC E (0, 0) GL M46 49 [(0, sx_A (53)), (1, sx_J (x))] [sx_J (x46)]
      refine sx_lstore_n (lv' := [(3, sx_J (x46)), (0, sx_A (53)), (1, sx_J (x))]) C d_Mo_run_49 rfl (by rw [hnL]; decide) rfl ?_
      refine sx_lload_n C 0 d_Mo_run_50 rfl rfl ?_
      refine sx_lconst C 0 rfl d_Mo_run_51 ?_
      refine sx_lcmp_ge C 62 ⟨by omega, by omega⟩ ⟨by omega, by omega⟩ d_Mo_run_52 d_Mo_run_53 (by decide) (fun c53 => ?_) (fun c53 => ?_)
      · refine sx_aload_n C 1 d_Mo_run_62 rfl rfl ?_
        refine sx_iconst C d_Mo_run_63 ?_
        refine sx_putz C p_Mo_161 (by omega) (by decide) rfl d_Mo_run_64 ?_
        refine sx_aload_n C 1 d_Mo_run_67 rfl rfl ?_
        refine sx_iconst C d_Mo_run_68 ?_
        refine sx_putz C p_Mo_86 (by omega) (by decide) rfl d_Mo_run_69 ?_
        refine sx_aload_n C 1 d_Mo_run_72 rfl rfl ?_
        refine sx_lload_n C 0 d_Mo_run_73 rfl rfl ?_
        refine sx_putl C p_Mo_171 (by decide) rfl d_Mo_run_74 ?_
        refine sx_iconst C d_Mo_run_77 ?_
        refine sx_istore (lv' := [(5, sx_I (0)), (3, sx_J (x46)), (0, sx_A (53)), (1, sx_J (x))]) C d_Mo_run_78 (by rw [hnL]; decide) rfl ?_
        refine sx_sub [0, 1, 2, 3] rfl ?_
        have hc := lpc_run (sx_up (sx_up (sx_up M46 53 12 1) 53 15 1) 53 14 x46) M x46 x C Rr hnL (hk := ?_) 7 0 (by decide) (by decide)
        · rw [tfS_0] at hc; exact hc
        · refine Or.inr (Or.inr ⟨by omega, by omega, x46, M46 67, b46, Or.inr ⟨by omega, rfl, fun d hd => ?_, fun a p1 p2 p3 p4 p5 => ?_, ?_, ?_, ?_, ?_, fun j q1 q2 q3 q4 => ?_⟩⟩)
          · rw [tfS_lt hd, sx_up_ne (by decide), sx_up_ne (by decide), sx_up_ne (by decide)]
          · rw [tfS_ne p2, sx_up_ne p1, sx_up_ne p1, sx_up_ne p1, f46 a p3 p5, ak_ne p3 p4]; exact rn2_ne p1
          · rw [tfS_ne (by decide), sx_up_slot (by decide), sx_up_slot (by decide), sx_up_at]
          · rw [tfS_ne (by decide), sx_up_slot (by decide), sx_up_at]
          · rw [tfS_ne (by decide), sx_up_at]
          · rw [tfS_ne (by decide), sx_up_slot (by decide), sx_up_slot (by decide), sx_up_slot (by decide), e53]; exact sx_up_at
          · rw [tfS_ne (by decide), sx_up_slot q2, sx_up_slot q3, sx_up_slot q1, e53]; exact rn2_sl q1 q3 q4
      · refine sx_aload_n C 1 d_Mo_run_56 rfl rfl ?_
        refine sx_callV (n := 71) (As := []) (st := []) C (ct_Mo_findClash _ _ _ M46 hT46 hr46) rfl (by decide) rfl (cv_Mo_168 E C _ (by rw [Rr.2.2]; decide)) (Nat.le_of_ble_eq_true rfl) d_Mo_run_57 (by rw [Rr.2.2]; decide) (by decide) rfl rfl rfl (fun r57 G57 M57 hpo _ => ?_)
        obtain ⟨ee1, rfl, h57⟩ := hpo
        rw [ee1]
        show sx_X SC E (0, 0) GL M57 60 [(3, sx_J (x46)), (0, sx_A (53)), (1, sx_J (x))] []
        refine sx_iconst C d_Mo_run_60 ?_
        refine sx_ireturn C Rr rfl d_Mo_run_61 ?_
        obtain ⟨cs, y1, y2⟩ := h57
        refine ⟨rfl, 2, rfl, Or.inr (Or.inr ⟨by omega, by omega, x46, _, b46, Or.inl ⟨by omega, rfl, ⟨cs, fcE_congr hT (fun a ha => fr46 a (by omega) (by omega)) y2, y1.2.2.1, y1.2.2.2⟩, fun a p1 p2 p3 p4 => ?_, fun j hj => ?_⟩⟩)⟩
        · rw [y1.1 a p1 p2 p3 p4, f46 a p2 p4, ak_ne p2 p3]; exact rn2_ne p1
        · rw [y1.2.1 j hj, f46 53 (by decide) (by decide), ak_ne (by decide) (by decide)]
    · refine sx_iconst C d_Mo_run_32 ?_
      refine sx_ireturn C Rr rfl d_Mo_run_33 ?_
      exact ⟨rfl, 1, rfl, Or.inr (Or.inl ⟨by omega, by omega, rfl, rfl⟩)⟩
  · refine sx_iconst C d_Mo_run_6 ?_
    refine sx_ireturn C Rr rfl d_Mo_run_7 ?_
    exact ⟨rfl, -1, rfl, Or.inl ⟨by omega, rfl, rfl⟩⟩
