theorem lxs_le {g h : Nat → Int} : ∀ {n k : Nat}, lxs n k g h → lx n k g h
  | 0, _, z => absurd z (fun w => w)
  | n + 1, k, z => by
    rcases z with y | ⟨y, y2⟩
    · exact Or.inl y
    · exact Or.inr ⟨y, lxs_le y2⟩
theorem lx_congr' : ∀ {n k : Nat} {g h g' h' : Nat → Int}, (∀ e, k ≤ e → e < k + n → g e = g' e) → (∀ e, k ≤ e → e < k + n → h e = h' e) → lx n k g h → lx n k g' h'
  | 0, _, _, _, _, _, _, _, _ => trivial
  | n + 1, k, g, h, g', h', e1, e2, hl => by
    unfold lx at hl ⊢
    rw [← e1 k (Nat.le_refl k) (by omega), ← e2 k (Nat.le_refl k) (by omega)]
    rcases hl with h1 | ⟨h1, h2⟩
    · exact Or.inl h1
    · exact Or.inr ⟨h1, lx_congr' (fun x hx hy => e1 x (by omega) (by omega)) (fun x hx hy => e2 x (by omega) (by omega)) h2⟩
theorem rT_fr {M M' : sx_M0} (h : ∀ a, a ≤ 62 → M' a = M a) (hT : tw M) (hr : rT M) : rT M' := by
  have g0 := hT.1
  have e : ∀ d : Nat, (d : Int) < M 1 0 → 4 + 1 + d ≤ 62 → M' (4 + 1 + d) = M (4 + 1 + d) := fun d _ h2 => h _ h2
  unfold rT at hr ⊢
  rw [h 53 (by decide), h 1 (by decide), h 54 (by decide), h 2 (by decide), h 55 (by decide), h 3 (by decide), h 62 (by decide), h 56 (by decide), h 57 (by decide), h 58 (by decide), h 59 (by decide), h 60 (by decide), h 61 (by decide), h 11 (by decide), h 12 (by decide), h 13 (by decide), h 14 (by decide), h 15 (by decide), h 16 (by decide)]
  refine ⟨hr.1, hr.2.1, hr.2.2.1, hr.2.2.2.1, hr.2.2.2.2.1, fun d p h1 h2 => ?_, hr.2.2.2.2.2.2⟩
  by_cases e0 : 4 + 1 + d ≤ 62
  · rw [h _ e0]; exact hr.2.2.2.2.2.1 d p h1 h2
  · omega
theorem psF_congr {g g' : Nat → Int} : ∀ {n : Nat}, (∀ d, d < n → g d = g' d) → psF g n = psF g' n
  | 0, _ => rfl
  | n + 1, h => by
    have ih := psF_congr (n := n) (fun d hd => h d (by omega))
    show (if 0 ≤ g n then psF g n ||| 2 ^ (g n).toNat else psF g n) = (if 0 ≤ g' n then psF g' n ||| 2 ^ (g' n).toNat else psF g' n)
    rw [ih, h n (by omega)]
theorem ldF_congr {ak ak' g g' : Nat → Int} {p : Nat} : ∀ {n : Nat}, (∀ d, d < n → g d = g' d) → (∀ d, d < n → ak d = ak' d) → ldF ak g p n = ldF ak' g' p n
  | 0, _, _ => rfl
  | n + 1, h, h2 => by
    have ih := ldF_congr (p := p) (n := n) (fun d hd => h d (by omega)) (fun d hd => h2 d (by omega))
    show ldF ak g p n + (if g n = (p : Int) then ak n else 0) = ldF ak' g' p n + (if g' n = (p : Int) then ak' n else 0)
    rw [ih, h n (by omega), h2 n (by omega)]
theorem smF_congr {M M' : sx_M0} {ak ak' g g' : Nat → Int} : ∀ {n : Nat}, n ≤ 6 → (∀ a, a ≤ 16 → M' a = M a) → (∀ d, d < n → g d = g' d) → (∀ d, d < n → ak d = ak' d) → smF M' ak g n = smF M ak' g' n
  | 0, _, _, _, _ => rfl
  | n + 1, hn, hM, h, h2 => by
    have ih := smF_congr (n := n) (by omega) hM (fun d hd => h d (by omega)) (fun d hd => h2 d (by omega))
    show smF M' ak g n + (if 0 ≤ g n then ak n * M' (4 + 1 + n) (g n).toNat else 0) = smF M ak' g' n + (if 0 ≤ g' n then ak' n * M (4 + 1 + n) (g' n).toNat else 0)
    rw [ih, h n (by omega), h2 n (by omega), hM (4 + 1 + n) (by omega)]
theorem FP_congr {M M' : sx_M0} {ak ak' g g' : Nat → Int} {f : Int} (h6 : (M 1 0).toNat ≤ 6) (hM : ∀ a, a ≤ 16 → M' a = M a) (h : ∀ d, d < (M 1 0).toNat → g d = g' d) (h2 : ∀ d, d < (M 1 0).toNat → ak d = ak' d) : FP M' ak g f ↔ FP M ak' g' f := by
  unfold FP
  rw [hM 1 (by decide)]
  have e1 : (∀ d : Nat, d < (M 1 0).toNat → (0 < ak d ↔ 0 ≤ g d)) ↔ (∀ d : Nat, d < (M 1 0).toNat → (0 < ak' d ↔ 0 ≤ g' d)) := by
    constructor
    · intro z d hd; rw [← h d hd, ← h2 d hd]; exact z d hd
    · intro z d hd; rw [h d hd, h2 d hd]; exact z d hd
  have e2 : (∀ p : Nat, p < (M 1 1).toNat → ftP M' ak g f p) ↔ (∀ p : Nat, p < (M 1 1).toNat → ftP M ak' g' f p) := by
    have e3 : ∀ p, ftP M' ak g f p ↔ ftP M ak' g' f p := fun p => by
      unfold ftP
      rw [hM 1 (by decide), hM 14 (by decide), ldF_congr h h2]
      have : (∀ d : Nat, d < (M 1 0).toNat → g d = (p : Int) → cgS M' d p) ↔ (∀ d : Nat, d < (M 1 0).toNat → g' d = (p : Int) → cgS M d p) := by
        constructor
        · intro z d hd hq
          have := z d hd (by rw [h d hd]; exact hq)
          unfold cgS at this ⊢
          rw [hM (4 + 1 + d) (by omega), hM 3 (by decide)] at this
          exact this
        · intro z d hd hq
          have := z d hd (by rw [← h d hd]; exact hq)
          unfold cgS at this ⊢
          rw [hM (4 + 1 + d) (by omega), hM 3 (by decide)]
          exact this
      rw [this]
    constructor
    · intro z p hp; exact (e3 p).mp (z p hp)
    · intro z p hp; exact (e3 p).mpr (z p hp)
  rw [e1, e2, mo_fr hM, psF_congr h]
theorem smF_bd {M : sx_M0} (hT : tw M) {ak g : Nat → Int} (hA : ∀ d, d < 6 → 0 ≤ ak d ∧ ak d ≤ 150) : ∀ {n : Nat}, n ≤ 6 → (∀ d, d < n → g d ≤ 4) → -150 * (n : Int) ≤ smF M ak g n ∧ smF M ak g n ≤ 1500000 * (n : Int)
  | 0, _, _ => by simp [smF]
  | n + 1, hn, h => by
    have ih := smF_bd hT hA (n := n) (by omega) (fun d hd => h d (by omega))
    have q := hA n (by omega)
    have q2 := h n (by omega)
    show _ ≤ smF M ak g n + (if 0 ≤ g n then ak n * M (4 + 1 + n) (g n).toNat else 0) ∧ smF M ak g n + (if 0 ≤ g n then ak n * M (4 + 1 + n) (g n).toNat else 0) ≤ _
    split
    · have q3 := hT.2.2.2.2.2.1 n (g n).toNat (by omega) (by omega)
      have q4 := mul_bd2 q.1 q.2 q3.1 q3.2
      omega
    · omega
theorem smF_nn {M : sx_M0} (hT : tw M) {ak g : Nat → Int} {f : Int} (hA : ∀ d, d < 6 → 0 ≤ ak d ∧ ak d ≤ 150) (hg : ∀ d, d < (M 1 0).toNat → g d < M 1 1) (h : FP M ak g f) : ∀ {n : Nat}, n ≤ (M 1 0).toNat → 0 ≤ smF M ak g n
  | 0, _ => Int.le_refl 0
  | n + 1, hn => by
    have g0 := hT.1
    have g1 := hT.2.1
    have ih := smF_nn hT hA hg h (n := n) (by omega)
    have q := hA n (by omega)
    have q2 := hg n (by omega)
    show 0 ≤ smF M ak g n + (if 0 ≤ g n then ak n * M (4 + 1 + n) (g n).toNat else 0)
    by_cases e : 0 ≤ g n
    · rw [if_pos e]
      have q3 := hT.2.2.2.2.2.1 n (g n).toNat (by omega) (by omega)
      have q4 := (h.2.1 (g n).toNat (by omega)).1 n (by omega) (by omega)
      unfold cgS at q4
      have := Int.mul_nonneg q.1 (show 0 ≤ M (4 + 1 + n) (g n).toNat by omega)
      omega
    · rw [if_neg e]
      omega
/-- a plan of the reference, as a row of six -/
def PN (M : sx_M0) (ak : Nat → Int) (f : Int) (g : Nat → Int) : Prop := (∀ d, d < (M 1 0).toNat → -1 ≤ g d ∧ g d < M 1 1) ∧ (∀ d, (M 1 0).toNat ≤ d → d < 6 → g d = -1) ∧ FP M ak g f
def bsR (M : sx_M0) (ak : Nat → Int) (f z x : Int) (R : (Nat → Int) → Prop) (b : Nat → Int) : Prop := (x = -1 ∧ ∀ g, PN M ak f g → ¬ R g) ∨ (∃ g0, PN M ak f g0 ∧ R g0 ∧ (0 ≤ x ∧ x ≤ 9000000) ∧ x = smF M ak g0 (M 1 0).toNat ∧ (∀ d, d < 6 → b d = g0 d) ∧ (z = 0 → ∀ g, PN M ak f g → R g → x ≤ smF M ak g (M 1 0).toNat ∧ (x = smF M ak g (M 1 0).toNat → lx (M 1 0).toNat 0 g0 g)))
def tSh (M : sx_M0) (ak t : Nat → Int) : Prop := (∀ e, e < (M 1 0).toNat → (0 < ak e ↔ 0 ≤ t e) ∧ -1 ≤ t e ∧ t e < M 1 1) ∧ (∀ e, (M 1 0).toNat ≤ e → e < 6 → t e = -1)
theorem pn_sh {M : sx_M0} {ak t g : Nat → Int} {f : Int} (ht : tSh M ak t) (hg : PN M ak f g) : shT (M 1 0).toNat (M 1 1) t g := fun e he => by
  have q := ht.1 e he
  have q2 := hg.1 e he
  have q3 := hg.2.2.1 e he
  exact ⟨fun y => ⟨q3.mp (q.1.mpr y), q2.2⟩, fun y => by
    have : ¬ 0 ≤ g e := fun z => by
      have := q.1.mp (q3.mpr z)
      omega
    omega⟩
theorem ts_nx {M : sx_M0} {ak t t' : Nat → Int} {d : Nat} (ht : tSh M ak t) (h : nxP (M 1 0).toNat (M 1 1) t t' d) : tSh M ak t' := by
  refine ⟨fun e he => ?_, fun e h1 h2 => by rw [h.2.2.2.2.2.2 e h1]; exact ht.2 e h1 h2⟩
  have q := ht.1 e he
  rcases Nat.lt_trichotomy e d with y | y | y
  · rw [h.2.2.2.2.1 e y]; exact q
  · subst y
    have q2 := h.2.2.2.1
    have q3 := h.2.1
    have q4 := h.2.2.1
    exact ⟨⟨fun z => by omega, fun z => q.1.mpr q3⟩, by omega, by omega⟩
  · have q2 := h.2.2.2.2.2.1 e y he
    rcases Int.lt_or_le (t e) 0 with w | w
    · rw [q2.2 w]; exact q
    · have := (q2.1 w)
      exact ⟨⟨fun z => by omega, fun z => q.1.mpr w⟩, by omega, by omega⟩
theorem bs_no {M : sx_M0} {ak t b : Nat → Int} {f z x : Int} (h6 : (M 1 0).toNat ≤ 6) (hn : ¬ FP M ak t f) (h : bsR M ak f z x (fun g => lxs (M 1 0).toNat 0 g t) b) : bsR M ak f z x (fun g => lx (M 1 0).toNat 0 g t) b := by
  have key : ∀ g, PN M ak f g → lx (M 1 0).toNat 0 g t → lxs (M 1 0).toNat 0 g t := fun g hg hl => by
    by_cases e : lxs (M 1 0).toNat 0 g t
    · exact e
    · exfalso
      have := lx_eq hl e
      exact hn ((FP_congr h6 (fun _ _ => rfl) (fun d hd => this d (Nat.zero_le d) (by omega)) (fun _ _ => rfl)).mp hg.2.2)
  rcases h with ⟨h1, h2⟩ | ⟨g0, h1, h2, h3, h4, h5, h7⟩
  · exact Or.inl ⟨h1, fun g hg hl => h2 g hg (key g hg hl)⟩
  · exact Or.inr ⟨g0, h1, lxs_le h2, h3, h4, h5, fun hz g hg hl => h7 hz g hg (key g hg hl)⟩
theorem bs_new {M : sx_M0} {ak t b : Nat → Int} {f z x : Int} (hT : tw M) (hA : ∀ d, d < 6 → 0 ≤ ak d ∧ ak d ≤ 150) (ht : tSh M ak t) (hp : FP M ak t f) (hx : x < 0 ∨ smF M ak t (M 1 0).toNat < x) (h : bsR M ak f z x (fun g => lxs (M 1 0).toNat 0 g t) b) : bsR M ak f z (smF M ak t (M 1 0).toNat) (fun g => lx (M 1 0).toNat 0 g t) t := by
  have g0 := hT.1
  have g1 := hT.2.1
  have n0 := smF_nn hT hA (fun d hd => (ht.1 d hd).2.2) hp (n := (M 1 0).toNat) (Nat.le_refl _)
  have n1 := smF_bd hT (g := t) hA (n := (M 1 0).toNat) (by omega) (fun d hd => by have := (ht.1 d hd).2.2; omega)
  refine Or.inr ⟨t, ⟨fun d hd => (ht.1 d hd).2, ht.2, hp⟩, lx_refl _ _ _, ⟨n0, by omega⟩, rfl, fun _ _ => rfl, fun hz g hg hl => ?_⟩
  by_cases e : lxs (M 1 0).toNat 0 g t
  · rcases h with ⟨h1, h2⟩ | ⟨g0, h1, h2, h3, h4, h5, h7⟩
    · exact absurd e (h2 g hg)
    · have q := h7 hz g hg e
      exact ⟨by omega, fun y => by omega⟩
  · have q := lx_eq hl e
    have q2 : smF M ak g (M 1 0).toNat = smF M ak t (M 1 0).toNat := smF_congr (by omega) (fun _ _ => rfl) (fun d hd => q d (Nat.zero_le d) (by omega)) (fun _ _ => rfl)
    exact ⟨by omega, fun _ => lx_congr' (fun d h1 h2 => rfl) (fun d h1 h2 => (q d h1 h2).symm) (lx_refl _ _ t)⟩
theorem bs_old {M : sx_M0} {ak t b : Nat → Int} {f z x : Int} (h6 : (M 1 0).toNat ≤ 6) (hx : 0 ≤ x) (hx2 : x ≤ smF M ak t (M 1 0).toNat) (h : bsR M ak f z x (fun g => lxs (M 1 0).toNat 0 g t) b) : bsR M ak f z x (fun g => lx (M 1 0).toNat 0 g t) b := by
  rcases h with ⟨h1, h2⟩ | ⟨g0, h1, h2, h3, h4, h5, h7⟩
  · omega
  · refine Or.inr ⟨g0, h1, lxs_le h2, h3, h4, h5, fun hz g hg hl => ?_⟩
    by_cases e : lxs (M 1 0).toNat 0 g t
    · exact h7 hz g hg e
    · have q := lx_eq hl e
      have q2 : smF M ak g (M 1 0).toNat = smF M ak t (M 1 0).toNat := smF_congr h6 (fun _ _ => rfl) (fun d hd => q d (Nat.zero_le d) (by omega)) (fun _ _ => rfl)
      exact ⟨by omega, fun _ => lx_congr' (fun d h1 h2 => rfl) (fun d h1 h2 => (q d h1 h2).symm) (lxs_le h2)⟩
theorem bs_mono {M : sx_M0} {ak b : Nat → Int} {f z x : Int} {R R' : (Nat → Int) → Prop} (hR : ∀ g, PN M ak f g → (R g ↔ R' g)) (h : bsR M ak f z x R b) : bsR M ak f z x R' b := by
  rcases h with ⟨h1, h2⟩ | ⟨g0, h1, h2, h3, h4, h5, h7⟩
  · exact Or.inl ⟨h1, fun g hg hl => h2 g hg ((hR g hg).mpr hl)⟩
  · exact Or.inr ⟨g0, h1, (hR g0 h1).mp h2, h3, h4, h5, fun hz g hg hl => h7 hz g hg ((hR g hg).mpr hl)⟩
theorem bs_stop {M : sx_M0} {ak b : Nat → Int} {f x : Int} {R R' : (Nat → Int) → Prop} (hR : ∀ g, R g → R' g) (hx : 0 ≤ x) (h : bsR M ak f 1 x R b) : bsR M ak f 1 x R' b := by
  rcases h with ⟨h1, h2⟩ | ⟨g0, h1, h2, h3, h4, h5, h7⟩
  · omega
  · exact Or.inr ⟨g0, h1, hR g0 h2, h3, h4, h5, fun hz => absurd hz (by decide)⟩
def seI (M0 M : sx_M0) (f z x : Int) : Prop := (∀ a, a ≠ 65 → a ≠ 67 → M a = M0 a) ∧ tSh M0 (M0 66) (M 65) ∧ bsR M0 (M0 66) f z x (fun g => lxs (M0 1 0).toNat 0 g (M 65)) (M 67)
def seJ (M0 M : sx_M0) (f z x : Int) : Prop := (∀ a, a ≠ 65 → a ≠ 67 → M a = M0 a) ∧ tSh M0 (M0 66) (M 65) ∧ bsR M0 (M0 66) f z x (fun g => lx (M0 1 0).toNat 0 g (M 65)) (M 67)
theorem se_bd {M : sx_M0} {ak b : Nat → Int} {f z x : Int} {R : (Nat → Int) → Prop} (h : bsR M ak f z x R b) : -1 ≤ x ∧ x ≤ 9000000 := by
  rcases h with ⟨h1, h2⟩ | ⟨g0, h1, h2, h3, h4, h5, h7⟩
  · omega
  · omega
set_option maxRecDepth 100000 in
set_option maxHeartbeats 4000000 in
theorem s98_search (M0 : sx_M0) (hT : tw M0) (hr : rT M0) (hA : ∀ d, d < 6 → 0 ≤ M0 66 d ∧ M0 66 d ≤ 150) (f z : Int) (hf : -1 ≤ f ∧ f ≤ 4) (hz : z = 0 ∨ z = 1) {E : sx_E} (C : sx_C SC g_tbl "SiteChoiceModel" c_Mo_search E) (Rr : sx_Ret SC (some .long) (rmk 3 120) (fun r G' M' => G' = GL ∧ ∃ x : Int, r = some (sx_J x) ∧ (∀ a, a ≠ 65 → a ≠ 67 → M' a = M0 a) ∧ bsR M0 (M0 66) f z x (fun _ => True) (M' 67)) E) (hnL : sx_nL E = 9) (M : sx_M0) (x : Int) (h : seJ M0 M f z x) (hih : ∀ (X : sx_M0) (x : Int), seI M0 X f z x → nuF (M 65) (M0 1 0).toNat 0 < nuF (X 65) (M0 1 0).toNat 0 → sx_X SC E (0, 0) GL X 30 [(3, sx_J (x)), (0, sx_A (53)), (1, sx_I (f)), (2, sx_I (z))] []) : sx_X SC E (0, 0) GL M 98 [(3, sx_J (x)), (0, sx_A (53)), (1, sx_I (f)), (2, sx_I (z))] [] := by
  have g0 := hT.1
  have g1 := hT.2.1
  have fr : ∀ a, a ≤ 62 → M a = M0 a := fun a ha => h.1 a (by omega) (by omega)
  have hTM : tw M := tw_fr (fun a ha => fr a (by omega)) hT
  have hrM : rT M := rT_fr fr hT hr
  have e1 : M 1 = M0 1 := fr 1 (by decide)
  have hgM : ∀ d, d < (M 1 0).toNat → -1 ≤ M 65 d ∧ M 65 d < M 1 1 := fun d hd => by rw [e1] at hd ⊢; exact (h.2.1.1 d hd).2
  have hxb := se_bd h.2.2
  refine sx_aload_n C 1 d_Mo_search_98 rfl rfl ?_
  refine sx_callV (n := 71) (As := []) (st := []) C (ct_Mo_next _ _ _ M hTM hrM hgM) rfl (by decide) rfl (cv_Mo_136 E C _ (by rw [Rr.2.2]; decide)) (Nat.le_of_ble_eq_true rfl) d_Mo_search_99 (by rw [Rr.2.2]; decide) (by decide) rfl rfl rfl (fun r99 G99 M99 hpo _ => ?_)
  obtain ⟨ee, f99, q99⟩ := hpo
  rw [ee]
  obtain ⟨b99, hb99, hc99⟩ : ∃ b99 : Int, r99 = some (sx_I b99) ∧ (b99 = 0 ∨ b99 = 1) := by rcases q99 with ⟨y0, -⟩ | ⟨y0, -⟩; exact ⟨1, y0, Or.inr rfl⟩; exact ⟨0, y0, Or.inl rfl⟩
  subst hb99
  show sx_X SC E (0, 0) GL M99 102 [(3, sx_J (x)), (0, sx_A (53)), (1, sx_I (f)), (2, sx_I (z))] [sx_I (b99)]
  refine sx_if_eq C 119 ⟨by omega, by omega⟩ d_Mo_search_102 (by decide) (fun c102 => ?_) (fun c102 => ?_)
  · refine sx_iconst C d_Mo_search_119 ?_
    refine sx_istore (lv' := [(5, sx_I (0)), (3, sx_J (x)), (0, sx_A (53)), (1, sx_I (f)), (2, sx_I (z))]) C d_Mo_search_120 (by rw [hnL]; decide) rfl ?_
    refine sx_goto C 25 d_Mo_search_122 (by decide) ?_
    refine sx_iload C 0 d_Mo_search_25 rfl ?_
    refine sx_if_eq C 125 ⟨by omega, by omega⟩ d_Mo_search_27 (by decide) (fun c27 => ?_) (fun c27 => ?_)
    · refine sx_lload_n C 1 d_Mo_search_125 rfl rfl ?_
      refine sx_lreturn C Rr rfl d_Mo_search_126 ?_
      first
      | (rcases q99 with ⟨y0, _⟩ | ⟨_, y1⟩
         · exfalso; cases y0; omega
         · rw [e1] at y1; exact ⟨rfl, x, rfl, fun a p1 p2 => (f99 a p1).trans (h.1 a p1 p2), by rw [f99 67 (by decide)]; exact bs_mono (fun g hg => ⟨fun _ => trivial, fun _ => lx_max y1 (pn_sh h.2.1 hg) _ 0 (by omega)⟩) h.2.2⟩)
      | (have z1 : z = 1 := by omega
         subst z1
         exact ⟨rfl, x, rfl, fun a p1 p2 => (f99 a p1).trans (h.1 a p1 p2), by rw [f99 67 (by decide)]; exact bs_stop (fun _ _ => trivial) (by omega) h.2.2⟩)
    · exfalso; omega
  · refine sx_iload_n C 3 d_Mo_search_105 rfl rfl ?_
    refine sx_if_eq C 115 ⟨by omega, by omega⟩ d_Mo_search_106 (by decide) (fun c106 => ?_) (fun c106 => ?_)
    · refine sx_iconst C d_Mo_search_115 ?_
      refine sx_goto C 120 d_Mo_search_116 (by decide) ?_
      refine sx_istore (lv' := [(5, sx_I (1)), (3, sx_J (x)), (0, sx_A (53)), (1, sx_I (f)), (2, sx_I (z))]) C d_Mo_search_120 (by rw [hnL]; decide) rfl ?_
      refine sx_goto C 25 d_Mo_search_122 (by decide) ?_
      refine sx_iload C 0 d_Mo_search_25 rfl ?_
      refine sx_if_eq C 125 ⟨by omega, by omega⟩ d_Mo_search_27 (by decide) (fun c27 => ?_) (fun c27 => ?_)
      · exfalso; omega
      · refine sx_sub [1, 2, 3, 4] rfl ?_
        rcases q99 with ⟨_, d, y1⟩ | ⟨y0, _⟩
        · rw [e1] at y1
          refine hih M99 x ⟨fun a p1 p2 => (f99 a p1).trans (h.1 a p1 p2), ts_nx h.2.1 y1, ?_⟩ ?_
          · rw [f99 67 (by decide)]
            exact bs_mono (fun g hg => (nx_lex y1 (pn_sh h.2.1 hg) _ 0 (by omega) (Nat.zero_le _)).symm) h.2.2
          · exact nu_mono _ 0 (fun e _ he => by have := (h.2.1.1 e (by omega)).2; omega) ((nx_lex y1 (fun e he => by have := h.2.1.1 e he; exact ⟨fun y => by omega, fun _ => rfl⟩) _ 0 (by omega) (Nat.zero_le _)).mpr (lx_refl _ _ _))
        · exfalso; cases y0; omega
    · refine sx_lload_n C 0 d_Mo_search_109 rfl rfl ?_
      refine sx_lconst C 0 rfl d_Mo_search_110 ?_
      refine sx_lcmp_ge C 119 ⟨by omega, by omega⟩ ⟨by omega, by omega⟩ d_Mo_search_111 d_Mo_search_112 (by decide) (fun c112 => ?_) (fun c112 => ?_)
      · refine sx_iconst C d_Mo_search_119 ?_
        refine sx_istore (lv' := [(5, sx_I (0)), (3, sx_J (x)), (0, sx_A (53)), (1, sx_I (f)), (2, sx_I (z))]) C d_Mo_search_120 (by rw [hnL]; decide) rfl ?_
        refine sx_goto C 25 d_Mo_search_122 (by decide) ?_
        refine sx_iload C 0 d_Mo_search_25 rfl ?_
        refine sx_if_eq C 125 ⟨by omega, by omega⟩ d_Mo_search_27 (by decide) (fun c27 => ?_) (fun c27 => ?_)
        · refine sx_lload_n C 1 d_Mo_search_125 rfl rfl ?_
          refine sx_lreturn C Rr rfl d_Mo_search_126 ?_
          first
          | (rcases q99 with ⟨y0, _⟩ | ⟨_, y1⟩
             · exfalso; cases y0; omega
             · rw [e1] at y1; exact ⟨rfl, x, rfl, fun a p1 p2 => (f99 a p1).trans (h.1 a p1 p2), by rw [f99 67 (by decide)]; exact bs_mono (fun g hg => ⟨fun _ => trivial, fun _ => lx_max y1 (pn_sh h.2.1 hg) _ 0 (by omega)⟩) h.2.2⟩)
          | (have z1 : z = 1 := by omega
             subst z1
             exact ⟨rfl, x, rfl, fun a p1 p2 => (f99 a p1).trans (h.1 a p1 p2), by rw [f99 67 (by decide)]; exact bs_stop (fun _ _ => trivial) (by omega) h.2.2⟩)
        · exfalso; omega
      · refine sx_iconst C d_Mo_search_115 ?_
        refine sx_goto C 120 d_Mo_search_116 (by decide) ?_
        refine sx_istore (lv' := [(5, sx_I (1)), (3, sx_J (x)), (0, sx_A (53)), (1, sx_I (f)), (2, sx_I (z))]) C d_Mo_search_120 (by rw [hnL]; decide) rfl ?_
        refine sx_goto C 25 d_Mo_search_122 (by decide) ?_
        refine sx_iload C 0 d_Mo_search_25 rfl ?_
        refine sx_if_eq C 125 ⟨by omega, by omega⟩ d_Mo_search_27 (by decide) (fun c27 => ?_) (fun c27 => ?_)
        · exfalso; omega
        · refine sx_sub [1, 2, 3, 4] rfl ?_
          rcases q99 with ⟨_, d, y1⟩ | ⟨y0, _⟩
          · rw [e1] at y1
            refine hih M99 x ⟨fun a p1 p2 => (f99 a p1).trans (h.1 a p1 p2), ts_nx h.2.1 y1, ?_⟩ ?_
            · rw [f99 67 (by decide)]
              exact bs_mono (fun g hg => (nx_lex y1 (pn_sh h.2.1 hg) _ 0 (by omega) (Nat.zero_le _)).symm) h.2.2
            · exact nu_mono _ 0 (fun e _ he => by have := (h.2.1.1 e (by omega)).2; omega) ((nx_lex y1 (fun e he => by have := h.2.1.1 e he; exact ⟨fun y => by omega, fun _ => rfl⟩) _ 0 (by omega) (Nat.zero_le _)).mpr (lx_refl _ _ _))
          · exfalso; cases y0; omega
set_option maxRecDepth 100000 in
set_option maxHeartbeats 4000000 in
theorem lpc_search  (M : sx_M0) (f z x : Int) {E : sx_E} (C : sx_C SC g_tbl "SiteChoiceModel" c_Mo_search E) (hnL : sx_nL E = 9) (hk : sx_X SC E (0, 0) GL (tfS M 67 6 (M 65)) 98 [(3, sx_J (x)), (0, sx_A (53)), (1, sx_I (f)), (2, sx_I (z))] []) : ∀ (nF : Nat) (j : Nat), 6 - j < nF → j ≤ 6 → sx_X SC E (0, 0) GL (tfS M 67 j (M 65)) 71 [(8, sx_I (((j : Nat) : Int))), (3, sx_J (x)), (0, sx_A (53)), (1, sx_I (f)), (2, sx_I (z))] [] := by
  intro nF
  induction nF with
  | zero => intro j h; omega
  | succ nF ih =>
    intro j hn h1
    refine sx_iload C 0 d_Mo_search_71 rfl ?_
    refine sx_bipush C d_Mo_search_73 (by decide) ?_
    refine sx_icmp_ge C 98 ⟨by omega, by omega⟩ ⟨by omega, by omega⟩ d_Mo_search_75 (by decide) (fun c75 => ?_) (fun c75 => ?_)
    · refine sx_sub [1, 2, 3, 4] rfl ?_
      rw [show j = 6 by omega]
      exact hk
    · refine sx_aload_n C 2 d_Mo_search_78 rfl rfl ?_
      refine sx_getr C f_Mo_57 67 (by decide) rfl rfl d_Mo_search_79 ?_
      refine sx_iload C 0 d_Mo_search_82 rfl ?_
      refine sx_aload_n C 2 d_Mo_search_84 rfl rfl ?_
      refine sx_getr C f_Mo_51 65 (by decide) rfl rfl d_Mo_search_85 ?_
      refine sx_iload C 0 d_Mo_search_88 rfl ?_
      refine sx_iaload C j (by decide) rfl rfl rfl (by omega) (by decide) d_Mo_search_90 ?_
      rw [show tfS M 67 j (M 65) 65 j = M 65 j from congrFun (tfS_ne (by decide)) j]
      refine sx_iastore C j (by decide) rfl rfl rfl (by omega) (by decide) d_Mo_search_91 ?_
      refine sx_iinc (lv' := [(8, sx_I (((j + 1 : Nat) : Int))), (3, sx_J (x)), (0, sx_A (53)), (1, sx_I (f)), (2, sx_I (z))]) C 0 d_Mo_search_92 rfl (by rw [hnL]; decide) rfl ?_
      refine sx_goto C 71 d_Mo_search_95 (by decide) ?_
      rw [tfS_succ M 67 j (M 65) rfl]
      refine sx_sub [0, 1, 2, 3, 4] rfl ?_
      exact ih (j + 1) (by omega) (by omega)
theorem bs_b {M : sx_M0} {ak b b' : Nat → Int} {f z x : Int} {R : (Nat → Int) → Prop} (hb : ∀ d, d < 6 → b d = b' d) (h : bsR M ak f z x R b) : bsR M ak f z x R b' := by
  rcases h with ⟨h1, h2⟩ | ⟨g0, h1, h2, h3, h4, h5, h7⟩
  · exact Or.inl ⟨h1, h2⟩
  · exact Or.inr ⟨g0, h1, h2, h3, h4, fun d hd => by rw [← hb d hd]; exact h5 d hd, h7⟩
set_option maxRecDepth 100000 in
set_option maxHeartbeats 4000000 in
theorem lp_Mo_search (M0 : sx_M0) (hT : tw M0) (hr : rT M0) (hA : ∀ d, d < 6 → 0 ≤ M0 66 d ∧ M0 66 d ≤ 150) (f z : Int) (hf : -1 ≤ f ∧ f ≤ 4) (hz : z = 0 ∨ z = 1) {E : sx_E} (C : sx_C SC g_tbl "SiteChoiceModel" c_Mo_search E) (Rr : sx_Ret SC (some .long) (rmk 3 120) (fun r G' M' => G' = GL ∧ ∃ x : Int, r = some (sx_J x) ∧ (∀ a, a ≠ 65 → a ≠ 67 → M' a = M0 a) ∧ bsR M0 (M0 66) f z x (fun _ => True) (M' 67)) E) (hnL : sx_nL E = 9) : ∀ (nF : Nat) (M : sx_M0) (x : Int), 46656 - nuF (M 65) (M0 1 0).toNat 0 < nF → seI M0 M f z x → sx_X SC E (0, 0) GL M 30 [(3, sx_J (x)), (0, sx_A (53)), (1, sx_I (f)), (2, sx_I (z))] [] := by
  intro nF
  induction nF with
  | zero => intro M x h; omega
  | succ nF ih =>
    intro M x hn h
    have g0 := hT.1
    have g1 := hT.2.1
    have fr : ∀ a, a ≤ 62 → M a = M0 a := fun a ha => h.1 a (by omega) (by omega)
    have hTM : tw M := tw_fr (fun a ha => fr a (by omega)) hT
    have hrM : rT M := rT_fr fr hT hr
    have e1 : M 1 = M0 1 := fr 1 (by decide)
    have hgM : ∀ d, d < (M 1 0).toNat → -1 ≤ M 65 d ∧ M 65 d < M 1 1 := fun d hd => by rw [e1] at hd ⊢; exact (h.2.1.1 d hd).2
    have hxb := se_bd h.2.2
    have e66 : M 66 = M0 66 := h.1 66 (by decide) (by decide)
    have hAM : ∀ d, d < 6 → 0 ≤ M 66 d ∧ M 66 d ≤ 150 := fun d hd => by rw [e66]; exact hA d hd
    have hg4 : ∀ d, d < (M 1 0).toNat → -1 ≤ M 65 d ∧ M 65 d ≤ 4 := fun d hd => by have := hgM d hd; rw [e1] at this; omega
    have sb := smF_bd hT (g := M 65) hA (n := (M0 1 0).toNat) (by omega) (fun d hd => by have := (h.2.1.1 d hd).2; omega)
    have hih : ∀ (X : sx_M0) (x : Int), seI M0 X f z x → nuF (M 65) (M0 1 0).toNat 0 < nuF (X 65) (M0 1 0).toNat 0 → sx_X SC E (0, 0) GL X 30 [(3, sx_J (x)), (0, sx_A (53)), (1, sx_I (f)), (2, sx_I (z))] [] := fun X y hX hlt => by
      have := nu_lt (t := X 65) (M0 1 0).toNat 0 (fun e _ he => by have := (hX.2.1.1 e (by omega)).2; omega)
      have := pw6 (M0 1 0).toNat (by omega)
      exact ih X y (by omega) hX
    refine sx_aload_n C 1 d_Mo_search_30 rfl rfl ?_
    refine sx_aload_n C 1 d_Mo_search_31 rfl rfl ?_
    refine sx_getr C f_Mo_51 65 (by decide) rfl rfl d_Mo_search_32 ?_
    refine sx_iload_n C 2 d_Mo_search_35 rfl rfl ?_
    refine sx_callV (n := 71) (As := [sx_A (65), sx_I (f)]) (st := []) C (ct_Mo_isPlan _ _ _ M hTM hrM hAM 65 (by decide) rfl hgM f hf) rfl (by decide) rfl (cv_Mo_129 E C _ (by rw [Rr.2.2]; decide)) (Nat.le_of_ble_eq_true rfl) d_Mo_search_36 (by rw [Rr.2.2]; decide) (by decide) rfl rfl rfl (fun r36 G36 M36 hpo _ => ?_)
    obtain ⟨ee1, ee2, b36, rfl, hb36⟩ := hpo
    rw [ee1, ee2]
    rw [e66, FP_congr (by omega) (fun a ha => fr a (by omega)) (fun _ _ => rfl) (fun _ _ => rfl)] at hb36
    show sx_X SC E (0, 0) GL M 39 [(3, sx_J (x)), (0, sx_A (53)), (1, sx_I (f)), (2, sx_I (z))] [sx_I (b36)]
    refine sx_if_eq C 98 ⟨by omega, by omega⟩ d_Mo_search_39 (by decide) (fun c39 => ?_) (fun c39 => ?_)
    · refine sx_sub [0, 1, 2, 3] rfl ?_
      refine s98_search M0 hT hr hA f z hf hz C Rr hnL M x ⟨h.1, h.2.1, ?_⟩ hih
      first | (exact bs_no (by omega) (by rcases hb36 with ⟨z1, z2⟩ | ⟨z1, z2⟩; (exfalso; omega); exact z2) h.2.2) | (exact bs_old (by omega) (by omega) (by omega) h.2.2)
    · refine sx_aload_n C 1 d_Mo_search_42 rfl rfl ?_
      refine sx_aload_n C 1 d_Mo_search_43 rfl rfl ?_
      refine sx_getr C f_Mo_51 65 (by decide) rfl rfl d_Mo_search_44 ?_
      refine sx_callV (n := 71) (As := [sx_A (65)]) (st := []) C (ct_Mo_sumOf _ _ _ M hTM hrM 65 (by decide) rfl hg4) rfl (by decide) rfl (cv_Mo_132 E C _ (by rw [Rr.2.2]; decide)) (Nat.le_of_ble_eq_true rfl) d_Mo_search_47 (by rw [Rr.2.2]; decide) (by decide) rfl rfl rfl (fun r47 G47 M47 hpo _ => ?_)
      obtain ⟨ee1, ee2, rfl⟩ := hpo
      rw [ee1, ee2]
      rw [e66, e1, smF_congr (M := M0) (by omega) (fun a ha => fr a (by omega)) (fun _ _ => rfl) (fun _ _ => rfl)]
      show sx_X SC E (0, 0) GL M 50 [(3, sx_J (x)), (0, sx_A (53)), (1, sx_I (f)), (2, sx_I (z))] [sx_J (smF M0 (M0 66) (M 65) (M0 1 0).toNat)]
      refine sx_lstore (lv' := [(6, sx_J (smF M0 (M0 66) (M 65) (M0 1 0).toNat)), (3, sx_J (x)), (0, sx_A (53)), (1, sx_I (f)), (2, sx_I (z))]) C d_Mo_search_50 (by rw [hnL]; decide) rfl ?_
      refine sx_lload_n C 1 d_Mo_search_52 rfl rfl ?_
      refine sx_lconst C 0 rfl d_Mo_search_53 ?_
      refine sx_lcmp_lt C 65 ⟨by omega, by omega⟩ ⟨by omega, by omega⟩ d_Mo_search_54 d_Mo_search_55 (by decide) (fun c55 => ?_) (fun c55 => ?_)
      · refine sx_lload C 0 d_Mo_search_65 rfl ?_
        refine sx_lstore_n (lv' := [(3, sx_J (smF M0 (M0 66) (M 65) (M0 1 0).toNat)), (6, sx_J (smF M0 (M0 66) (M 65) (M0 1 0).toNat)), (0, sx_A (53)), (1, sx_I (f)), (2, sx_I (z))]) C d_Mo_search_67 rfl (by rw [hnL]; decide) rfl ?_
        refine sx_iconst C d_Mo_search_68 ?_
        refine sx_istore (lv' := [(8, sx_I (0)), (3, sx_J (smF M0 (M0 66) (M 65) (M0 1 0).toNat)), (6, sx_J (smF M0 (M0 66) (M 65) (M0 1 0).toNat)), (0, sx_A (53)), (1, sx_I (f)), (2, sx_I (z))]) C d_Mo_search_69 (by rw [hnL]; decide) rfl ?_
        refine sx_sub [0, 1, 3, 4, 5] rfl ?_
        have hc := lpc_search M f z (smF M0 (M0 66) (M 65) (M0 1 0).toNat) C hnL (hk := ?_) 7 0 (by decide) (by decide)
        · rw [tfS_0] at hc; exact hc
        · refine s98_search M0 hT hr hA f z hf hz C Rr hnL (tfS M 67 6 (M 65)) (smF M0 (M0 66) (M 65) (M0 1 0).toNat) ⟨fun a p1 p2 => by rw [tfS_ne p2]; exact h.1 a p1 p2, by rw [tfS_ne (by decide)]; exact h.2.1, ?_⟩ (by rw [tfS_ne (by decide)]; exact hih)
          rw [tfS_ne (by decide)]
          have hpl : FP M0 (M0 66) (M 65) f := by rcases hb36 with ⟨z1, z2⟩ | ⟨z1, z2⟩; (exact z2); (exfalso; omega)
          exact bs_b (fun d hd => (tfS_lt hd).symm) (bs_new hT hA h.2.1 hpl (by omega) h.2.2)
      · refine sx_lload C 0 d_Mo_search_58 rfl ?_
        refine sx_lload_n C 1 d_Mo_search_60 rfl rfl ?_
        refine sx_lcmp_ge C 98 ⟨by omega, by omega⟩ ⟨by omega, by omega⟩ d_Mo_search_61 d_Mo_search_62 (by decide) (fun c62 => ?_) (fun c62 => ?_)
        · refine sx_sub [1, 2, 3, 4] rfl ?_
          refine s98_search M0 hT hr hA f z hf hz C Rr hnL M x ⟨h.1, h.2.1, ?_⟩ hih
          first | (exact bs_no (by omega) (by rcases hb36 with ⟨z1, z2⟩ | ⟨z1, z2⟩; (exfalso; omega); exact z2) h.2.2) | (exact bs_old (by omega) (by omega) (by omega) h.2.2)
        · refine sx_lload C 0 d_Mo_search_65 rfl ?_
          refine sx_lstore_n (lv' := [(3, sx_J (smF M0 (M0 66) (M 65) (M0 1 0).toNat)), (6, sx_J (smF M0 (M0 66) (M 65) (M0 1 0).toNat)), (0, sx_A (53)), (1, sx_I (f)), (2, sx_I (z))]) C d_Mo_search_67 rfl (by rw [hnL]; decide) rfl ?_
          refine sx_iconst C d_Mo_search_68 ?_
          refine sx_istore (lv' := [(8, sx_I (0)), (3, sx_J (smF M0 (M0 66) (M 65) (M0 1 0).toNat)), (6, sx_J (smF M0 (M0 66) (M 65) (M0 1 0).toNat)), (0, sx_A (53)), (1, sx_I (f)), (2, sx_I (z))]) C d_Mo_search_69 (by rw [hnL]; decide) rfl ?_
          refine sx_sub [0, 1, 3, 4, 5] rfl ?_
          have hc := lpc_search M f z (smF M0 (M0 66) (M 65) (M0 1 0).toNat) C hnL (hk := ?_) 7 0 (by decide) (by decide)
          · rw [tfS_0] at hc; exact hc
          · refine s98_search M0 hT hr hA f z hf hz C Rr hnL (tfS M 67 6 (M 65)) (smF M0 (M0 66) (M 65) (M0 1 0).toNat) ⟨fun a p1 p2 => by rw [tfS_ne p2]; exact h.1 a p1 p2, by rw [tfS_ne (by decide)]; exact h.2.1, ?_⟩ (by rw [tfS_ne (by decide)]; exact hih)
            rw [tfS_ne (by decide)]
            have hpl : FP M0 (M0 66) (M 65) f := by rcases hb36 with ⟨z1, z2⟩ | ⟨z1, z2⟩; (exact z2); (exfalso; omega)
            exact bs_b (fun d hd => (tfS_lt hd).symm) (bs_new hT hA h.2.1 hpl (by omega) h.2.2)
set_option maxRecDepth 100000 in
set_option maxHeartbeats 4000000 in
theorem ct_Mo_search (l : Launch) (D : va_G) (tc : Nat → ClassId) (M : sx_M0) (hT : tw M) (hr : rT M) (hA : ∀ d, d < 6 → 0 ≤ M 66 d ∧ M 66 d ≤ 150) (f z : Int) (hf : -1 ≤ f ∧ f ≤ 4) (hz : z = 0 ∨ z = 1) (hTr : ∀ d, d < 6 → M 65 d = trS (M 66) d) (hA0 : ∀ d, (M 1 0).toNat ≤ d → d < 6 → M 66 d = 0) : sx_Met SC l D tc y_Mo_search w_Mo_search (rmk 3 120) [sx_A (53), sx_I (f), sx_I (z)] GL M (fun r G' M' => G' = GL ∧ ∃ x : Int, r = some (sx_J x) ∧ (∀ a, a ≠ 65 → a ≠ 67 → M' a = M a) ∧ bsR M (M 66) f z x (fun _ => True) (M' 67)) := by
  refine sx_enter (by decide) rfl (Nat.le_of_ble_eq_true rfl) (Ts := g_tbl) (fun _ h => List.mem_cons_of_mem _ h) (fun E C Rr hnm hnL => ?_)
  have g0 := hT.1
  have g1 := hT.2.1
  refine sx_ldc2 (v := (-1)) C (-1) (tb_ 526 (by decide +kernel) rfl) (by decide) d_Mo_search_0 ?_
  refine sx_lstore_n (lv' := [(3, sx_J ((-1))), (0, sx_A (53)), (1, sx_I (f)), (2, sx_I (z))]) C d_Mo_search_3 rfl (by rw [hnL]; decide) rfl ?_
  have r1 := hr.2.1
  refine sx_aload_n C 1 d_Mo_search_4 rfl rfl ?_
  refine sx_geti C f_Mo_77 (by decide) rfl d_Mo_search_5 ?_
  refine sx_if_gt C 18 ⟨by omega, by omega⟩ d_Mo_search_8 (by decide) (fun c8 => ?_) (fun c8 => ?_)
  · refine sx_iconst C d_Mo_search_18 ?_
    refine sx_goto C 23 d_Mo_search_19 (by decide) ?_
    refine sx_istore (lv' := [(5, sx_I (1)), (3, sx_J ((-1))), (0, sx_A (53)), (1, sx_I (f)), (2, sx_I (z))]) C d_Mo_search_23 (by rw [hnL]; decide) rfl ?_
    refine sx_iload C 0 d_Mo_search_25 rfl ?_
    refine sx_if_eq C 125 ⟨by omega, by omega⟩ d_Mo_search_27 (by decide) (fun c27 => ?_) (fun c27 => ?_)
    · exfalso; omega
    · refine sx_sub [1, 2, 3, 4] rfl ?_
      have hts : tSh M (M 66) (M 65) := ⟨fun e he => by
      have q1 := hA e (by omega)
      rw [hTr e (by omega)]
      unfold trS
      by_cases y : 0 < M 66 e
      · rw [if_pos y]
        refine ⟨⟨fun _ => Int.le_refl 0, fun _ => y⟩, by decide, ?_⟩
        first | omega | (have y2 := hc12.mp (by omega) e he; exact absurd y y2)
      · rw [if_neg y]
        exact ⟨⟨fun z => absurd z y, fun z => absurd z (by decide)⟩, by decide, by omega⟩, fun e h1 h2 => by rw [hTr e h2]; unfold trS; rw [hA0 e h1 h2]; rfl⟩
      exact lp_Mo_search M hT hr hA f z hf hz C Rr hnL _ M (-1) (Nat.lt_succ_self _) ⟨fun _ _ _ => rfl, hts, Or.inl ⟨rfl, fun g hg => lxs_min (fun e he => by rw [hTr e (by omega)]; exact tr_bd.2) (pn_sh hts hg) _ 0 (by omega)⟩⟩
  · refine sx_aload_n C 1 d_Mo_search_11 rfl rfl ?_
    refine sx_callV (n := 71) (As := []) (st := []) C (ct_Mo_count _ _ _ M hT hr hA) rfl (by decide) rfl (cv_Mo_125 E C _ (by rw [Rr.2.2]; decide)) (Nat.le_of_ble_eq_true rfl) d_Mo_search_12 (by rw [Rr.2.2]; decide) (by decide) rfl rfl rfl (fun r12 G12 M12 hpo _ => ?_)
    obtain ⟨ee1, ee2, z12, rfl, hz12, hc12⟩ := hpo
    rw [ee1, ee2]
    show sx_X SC E (0, 0) GL M 15 [(3, sx_J ((-1))), (0, sx_A (53)), (1, sx_I (f)), (2, sx_I (z))] [sx_I (z12)]
    refine sx_if_ne C 22 ⟨by omega, by omega⟩ d_Mo_search_15 (by decide) (fun c15 => ?_) (fun c15 => ?_)
    · refine sx_iconst C d_Mo_search_22 ?_
      refine sx_istore (lv' := [(5, sx_I (0)), (3, sx_J ((-1))), (0, sx_A (53)), (1, sx_I (f)), (2, sx_I (z))]) C d_Mo_search_23 (by rw [hnL]; decide) rfl ?_
      refine sx_iload C 0 d_Mo_search_25 rfl ?_
      refine sx_if_eq C 125 ⟨by omega, by omega⟩ d_Mo_search_27 (by decide) (fun c27 => ?_) (fun c27 => ?_)
      · refine sx_lload_n C 1 d_Mo_search_125 rfl rfl ?_
        refine sx_lreturn C Rr rfl d_Mo_search_126 ?_
        refine ⟨rfl, -1, rfl, fun _ _ _ => rfl, Or.inl ⟨rfl, fun g hg _ => ?_⟩⟩
        have : ¬ ∀ d, d < (M 1 0).toNat → ¬ 0 < M 66 d := fun y => by have := hc12.mpr y; omega
        refine this (fun d hd y => ?_)
        have q1 := (hg.2.2.1 d hd).mp y
        have q2 := (hg.1 d hd).2
        omega
      · exfalso; omega
    · refine sx_iconst C d_Mo_search_18 ?_
      refine sx_goto C 23 d_Mo_search_19 (by decide) ?_
      refine sx_istore (lv' := [(5, sx_I (1)), (3, sx_J ((-1))), (0, sx_A (53)), (1, sx_I (f)), (2, sx_I (z))]) C d_Mo_search_23 (by rw [hnL]; decide) rfl ?_
      refine sx_iload C 0 d_Mo_search_25 rfl ?_
      refine sx_if_eq C 125 ⟨by omega, by omega⟩ d_Mo_search_27 (by decide) (fun c27 => ?_) (fun c27 => ?_)
      · exfalso; omega
      · refine sx_sub [1, 2, 3, 4] rfl ?_
        have hts : tSh M (M 66) (M 65) := ⟨fun e he => by
      have q1 := hA e (by omega)
      rw [hTr e (by omega)]
      unfold trS
      by_cases y : 0 < M 66 e
      · rw [if_pos y]
        refine ⟨⟨fun _ => Int.le_refl 0, fun _ => y⟩, by decide, ?_⟩
        first | omega | (have y2 := hc12.mp (by omega) e he; exact absurd y y2)
      · rw [if_neg y]
        exact ⟨⟨fun z => absurd z y, fun z => absurd z (by decide)⟩, by decide, by omega⟩, fun e h1 h2 => by rw [hTr e h2]; unfold trS; rw [hA0 e h1 h2]; rfl⟩
        exact lp_Mo_search M hT hr hA f z hf hz C Rr hnL _ M (-1) (Nat.lt_succ_self _) ⟨fun _ _ _ => rfl, hts, Or.inl ⟨rfl, fun g hg => lxs_min (fun e he => by rw [hTr e (by omega)]; exact tr_bd.2) (pn_sh hts hg) _ 0 (by omega)⟩⟩
