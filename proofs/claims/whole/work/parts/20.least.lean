theorem lr_le {M : sx_M0} (hV : sv M) : ∀ {n k s : Nat} {rl g : Nat → Int}, k + n = dN M → (∀ d, k ≤ d → d < dN M → 0 < M 18 d → nuS M d (M 17 1).toNat ≠ -1) → CP (jS M) n k s rl g → lrS M n k ≤ sm (jS M) n k g
  | 0, _, _, _, _, _, _, _ => Int.le_refl 0
  | n + 1, k, s, rl, g, e, hu, h => by
    have g0 := hV.1
    have hD : dN M ≤ 6 := by unfold dN; omega
    have hn := hV.2.2.1 k (by omega)
    unfold lrS sm
    rcases h with ⟨h1, -, h3⟩ | ⟨h1, p, hp, h2, h3, h4, -, -, h7⟩
    · have h1' : M 18 k = 0 := h1
      have ih := lr_le hV (n := n) (k := k + 1) (by omega) (fun d hd => hu d (by omega)) h3
      rw [if_neg (show ¬ 0 < M 18 k by omega), if_pos h1]
      omega
    · have h1' : ¬ M 18 k = 0 := h1
      have ih := lr_le hV (n := n) (k := k + 1) (by omega) (fun d hd => hu d (by omega)) h7
      have hp' : p < (M 17 1).toNat := hp
      have ep : (jS M).2.2.2.1 k p = M (20 + 1 + k) p := if_pos (by omega)
      rw [ep] at h4
      have q := (nuS_le (d := k) (M 17 1).toNat p hp' h3 h4).2
      rw [if_pos (show 0 < M 18 k by omega), if_neg h1, h2, Int.toNat_natCast, ep]
      have : M 18 k * nuS M k (M 17 1).toNat ≤ M 18 k * M (20 + 1 + k) p := Int.mul_le_mul_of_nonneg_left q hn.1
      show lrS M n (k + 1) + M 18 k * nuS M k (M 17 1).toNat ≤ M 18 k * M (20 + 1 + k) p + sm (jS M) n (k + 1) g
      omega
theorem cp_at {M : sx_M0} (hV : sv M) {d : Nat} (hd : d < dN M) (hn : 0 < M 18 d) : ∀ {n k s : Nat} {rl g : Nat → Int}, k + n = dN M → k ≤ d → CP (jS M) n k s rl g → nuS M d (M 17 1).toNat ≠ -1
  | 0, k, _, _, _, e, h1, _ => by omega
  | n + 1, k, s, rl, g, e, hk, h => by
    have g0 := hV.1
    have hD : dN M ≤ 6 := by unfold dN; omega
    by_cases ek : k = d
    · subst ek
      rcases h with ⟨h1, -⟩ | ⟨-, p, hp, -, h3, h4, -⟩
      · have h1' : M 18 k = 0 := h1
        omega
      · have ep : (jS M).2.2.2.1 k p = M (20 + 1 + k) p := if_pos (by omega)
        rw [ep] at h4
        exact (nuS_le (d := k) (M 17 1).toNat p hp h3 h4).1
    · rcases h with ⟨-, -, h3⟩ | ⟨-, p, -, -, -, -, -, -, h7⟩
      · exact cp_at hV hd hn (by omega) (by omega) h3
      · exact cp_at hV hd hn (by omega) (by omega) h7
def jW (M : sx_M0) (W : Nat) : mt_J := ((M 17 0).toNat, (M 17 1).toNat, fun d => M 18 d, fun d p => if d < 6 then M (20 + 1 + d) p else 0, fun s => M 27 s, W)
/-- r is the least sum (or -1), bg its plan; with f = 1 any plan will do -/
def bstP (J : mt_J) (rl : Nat → Int) (f : Int) (r : Int) (bg : Nat → Int) : Prop := (r = -1 ∧ ∀ g, ¬ CP J J.1 0 0 rl g) ∨ (∃ g0, CP J J.1 0 0 rl g0 ∧ 0 ≤ r ∧ r = sm J J.1 0 g0 ∧ (∀ d, d < 6 → bg d = if d < J.1 then g0 d else -1) ∧ (f = 0 → ∀ g, CP J J.1 0 0 rl g → r ≤ sm J J.1 0 g ∧ (r = sm J J.1 0 g → lx J.1 0 g0 g)))
def lsF (M M' : sx_M0) : Prop := (∀ a, a ≠ 17 → a ≠ 29 → a ≠ 30 → a ≠ 31 → a ≠ 32 → M' a = M a) ∧ (∀ b, b ≠ 11 → b ≠ 12 → M' 17 b = M 17 b)
abbrev mW (M : sx_M0) (W : Nat) : sx_M0 := sx_up (sx_up M 17 11 (-1)) 17 12 (W : Int)
theorem mW_ne {M : sx_M0} {W a : Nat} (h : a ≠ 17) : mW M W a = M a := (sx_up_ne h).trans (sx_up_ne h)
theorem mW_17 {M : sx_M0} {W b : Nat} (h : b ≠ 11) (h2 : b ≠ 12) : mW M W 17 b = M 17 b := (sx_up_slot h2).trans (sx_up_slot h)
theorem mW_12 {M : sx_M0} {W : Nat} : mW M W 17 12 = (W : Int) := sx_up_at
theorem mW_11 {M : sx_M0} {W : Nat} : mW M W 17 11 = -1 := (sx_up_slot (by decide)).trans sx_up_at
theorem mW_j {M : sx_M0} {W : Nat} : jS (mW M W) = jW M W := by
  unfold jS jW
  rw [mW_17 (b := 0) (by decide) (by decide), mW_17 (b := 1) (by decide) (by decide), mW_12, mW_ne (a := 18) (by decide), mW_ne (a := 27) (by decide), Int.toNat_natCast]
  have e : (fun d p => if d < 6 then mW M W (20 + 1 + d) p else 0) = (fun d p => if d < 6 then M (20 + 1 + d) p else 0) := by
    funext d p
    by_cases hd : d < 6
    · rw [if_pos hd, if_pos hd, mW_ne (by omega)]
    · rw [if_neg hd, if_neg hd]
  rw [e]
theorem mW_sv {M : sx_M0} {W : Nat} (hV : sv M) (hW : W < 32) : sv (mW M W) := by
  unfold sv at hV ⊢
  rw [mW_17 (b := 0) (by decide) (by decide), mW_17 (b := 1) (by decide) (by decide), mW_17 (b := 13) (by decide) (by decide), mW_12, mW_11, mW_ne (a := 18) (by decide), mW_ne (a := 27) (by decide), mW_ne (a := 29) (by decide)]
  refine ⟨hV.1, hV.2.1, hV.2.2.1, fun d p hd hp => ?_, hV.2.2.2.2.1, by omega, hV.2.2.2.2.2.2.1, hV.2.2.2.2.2.2.2.1, by decide⟩
  rw [mW_ne (by omega)]
  exact hV.2.2.2.1 d p hd hp
abbrev m3 (M : sx_M0) : sx_M0 := flS (sx_cpy M 19 30 0 0 5) 31 6 (-1)
theorem m3_ne {M : sx_M0} {a : Nat} (h1 : a ≠ 30) (h2 : a ≠ 31) : m3 M a = M a := by
  funext b
  simp [flS, sx_cpy, h1, h2]
theorem m3_30 {M : sx_M0} {p : Nat} (hp : p < 5) : m3 M 30 p = M 19 p := by
  simp [flS, sx_cpy, hp]
theorem m3_31 {M : sx_M0} {d : Nat} (hd : d < 6) : m3 M 31 d = -1 := by
  simp [flS, hd]
theorem jS_eq2 {M M' : sx_M0} (h0 : M' 17 0 = M 17 0) (h1 : M' 17 1 = M 17 1) (h12 : M' 17 12 = M 17 12) (h18 : M' 18 = M 18) (h27 : M' 27 = M 27) (hr : ∀ d, d < 6 → M' (20 + 1 + d) = M (20 + 1 + d)) : jS M' = jS M := by
  unfold jS
  rw [h0, h1, h12, h18, h27]
  have e : (fun d p => if d < 6 then M' (20 + 1 + d) p else 0) = (fun d p => if d < 6 then M (20 + 1 + d) p else 0) := by
    funext d p
    by_cases hd : d < 6
    · rw [if_pos hd, if_pos hd, hr d hd]
    · rw [if_neg hd, if_neg hd]
  rw [e]
theorem m3_sv {M : sx_M0} (hV : sv M) : sv (m3 M) := by
  unfold sv at hV ⊢
  rw [m3_ne (a := 17) (by decide) (by decide), m3_ne (a := 18) (by decide) (by decide), m3_ne (a := 27) (by decide) (by decide), m3_ne (a := 29) (by decide) (by decide)]
  refine ⟨hV.1, hV.2.1, hV.2.2.1, fun d p hd hp => ?_, hV.2.2.2.2⟩
  rw [m3_ne (by omega) (by omega)]
  exact hV.2.2.2.1 d p hd hp
theorem m3_j {M : sx_M0} : jS (m3 M) = jS M := jS_eq2 (by rw [m3_ne (by decide) (by decide)]) (by rw [m3_ne (by decide) (by decide)]) (by rw [m3_ne (by decide) (by decide)]) (m3_ne (by decide) (by decide)) (m3_ne (by decide) (by decide)) (fun d hd => m3_ne (by omega) (by omega))
theorem ls_pre {M M2 : sx_M0} (hV : sv M) (hR : ∀ p, p < 5 → 0 ≤ M 19 p ∧ M 19 p ≤ 1000) (h : rlI M M2 0) : gvI (m3 M2) 0 0 0 := by
  have f := h.1
  have hV2 : sv M2 := sv_29 hV f h.2.1
  have eJ2 : jS M2 = jS M := jS_eq2 (by rw [f 17 (by decide)]) (by rw [f 17 (by decide)]) (by rw [f 17 (by decide)]) (f 18 (by decide)) (f 27 (by decide)) (fun d hd => f _ (by omega))
  have eD : dN (m3 M2) = dN M := by
    unfold dN
    rw [m3_ne (by decide) (by decide), f 17 (by decide)]
  refine ⟨m3_sv hV2, ?_, fun p hp => ?_, fun d hd _ => m3_31 hd, Nat.zero_le _, by decide, by decide, by decide⟩
  · intro k hk s rl g hg
    rw [m3_j, eJ2, eD] at hg ⊢
    rw [eD] at hk
    rw [m3_ne (by decide) (by decide), h.2.2.2.1 k (Nat.zero_le k) hk]
    exact lr_le hV (by omega) (fun d hd => h.2.2.1 d (Nat.zero_le d)) hg
  · rw [m3_30 hp, f 19 (by decide)]
    exact hR p hp
theorem CP_rl {J : mt_J} : ∀ {n k s : Nat} {rl rl' g : Nat → Int}, J.2.1 ≤ 5 → (∀ p, p < 5 → rl p = rl' p) → CP J n k s rl g → CP J n k s rl' g
  | 0, _, _, _, _, _, _, _, _ => trivial
  | n + 1, k, s, rl, rl', g, h5, e, h => by
    rcases h with ⟨h1, h2, h3⟩ | ⟨h1, p, hp, h2, h3, h4, h5', h6, h7⟩
    · exact Or.inl ⟨h1, h2, CP_rl h5 e h3⟩
    · refine Or.inr ⟨h1, p, hp, h2, h3, h4, by rw [← e p (by omega)]; exact h5', h6, CP_rl h5 (fun q hq => ?_) h7⟩
      show (if q = p then rl q - _ else rl q) = if q = p then rl' q - _ else rl' q
      rw [e q hq]
theorem ls_yes {M M2 M' : sx_M0} {W : Nat} (hV : sv M) (hW : W < 32) (h : rlI (mW M W) M2 0) (hg : gvP (m3 M2) M' 0 0 0) : lsF M M' ∧ sv M' ∧ bstP (jW M W) (M 19) (M 17 13) (M' 17 11) (M' 32) := by
  have f := h.1
  have hV1 := mW_sv hV hW
  have hV2 : sv M2 := sv_29 hV1 f h.2.1
  obtain ⟨hF, hI⟩ := hg
  have hV' := sv_fr (m3_sv hV2) hF
  have eJ : jS (m3 M2) = jW M W := by
    rw [m3_j, ← mW_j]
    exact jS_eq2 (by rw [f 17 (by decide)]) (by rw [f 17 (by decide)]) (by rw [f 17 (by decide)]) (f 18 (by decide)) (f 27 (by decide)) (fun d hd => f _ (by omega))
  have eD : dN (m3 M2) = (M 17 0).toNat := by
    unfold dN
    rw [m3_ne (by decide) (by decide), f 17 (by decide), mW_17 (by decide) (by decide)]
  have e17 : ∀ b, b ≠ 11 → b ≠ 12 → m3 M2 17 b = M 17 b := fun b h1 h2 => by rw [m3_ne (by decide) (by decide), f 17 (by decide), mW_17 h1 h2]
  have hP5 : (jW M W).2.1 ≤ 5 := by
    have := hV.2.1
    show (M 17 1).toNat ≤ 5
    omega
  refine ⟨⟨fun a h1 h2 h3 h4 h5 => ?_, fun b h1 h2 => ?_⟩, hV', ?_⟩
  · rw [hF.1 a h1 h4 h5, m3_ne h3 h4, f a h2, mW_ne h1]
  · rw [hF.2.1 b h1]
    exact e17 b h1 h2
  · have e11 : m3 M2 17 11 = -1 := by rw [m3_ne (by decide) (by decide), f 17 (by decide), mW_11]
    rw [eJ, eD, e11, e17 13 (by decide) (by decide), Nat.sub_zero] at hI
    have e30 : ∀ p, p < 5 → m3 M2 30 p = M 19 p := fun p hp => by rw [m3_30 hp, f 19 (by decide), mW_ne (by decide)]
    rcases hI with ⟨a1, a2, a3⟩ | ⟨g0, s0, a1, a2, a3, a4⟩
    · exact Or.inl ⟨a1, fun g hg => (a3 g (CP_rl hP5 (fun p hp => (e30 p hp).symm) hg)).1 rfl⟩
    · refine Or.inr ⟨g0, CP_rl hP5 e30 s0, ?_, by rw [a1]; exact Int.zero_add _, fun d hd => ?_, fun hf g hg => ?_⟩
      · have := sm_nn (m3_sv hV2) (n := (M 17 0).toNat) (k := 0) (by have := hV.1; omega) (by rw [eJ]; exact s0)
        rw [eJ] at this
        rw [a1]
        show (0 : Int) ≤ 0 + _
        omega
      · rw [a3 d hd]
        unfold otS
        rw [eD]
        by_cases hdd : d < (M 17 0).toNat
        · rw [if_pos ⟨Nat.zero_le d, hdd⟩]
          exact (if_pos hdd).symm
        · rw [if_neg (fun q => hdd q.2), m3_31 hd]
          exact (if_neg hdd).symm
      · have q := a4 hf g (CP_rl hP5 (fun p hp => (e30 p hp).symm) hg)
        have q1 : M' 17 11 ≤ 0 + sm (jW M W) (M 17 0).toNat 0 g := q.1
        refine ⟨by show M' 17 11 ≤ sm (jW M W) (M 17 0).toNat 0 g; omega, fun z => q.2 (z.trans ?_)⟩
        show sm (jW M W) (M 17 0).toNat 0 g = 0 + sm (jW M W) (M 17 0).toNat 0 g
        omega
theorem ls_no {M M2 : sx_M0} {W : Nat} (hV : sv M) (hW : W < 32) (f : ∀ a, a ≠ 29 → M2 a = mW M W a) (f2 : ∀ d, d < 7 → 0 ≤ M2 29 d ∧ M2 29 d ≤ 10000000) (h : ∃ d, d < dN (mW M W) ∧ 0 < mW M W 18 d ∧ nuS (mW M W) d (mW M W 17 1).toNat = -1) : lsF M M2 ∧ sv M2 ∧ bstP (jW M W) (M 19) (M 17 13) (M2 17 11) (M2 32) := by
  have hV1 := mW_sv hV hW
  have hV2 : sv M2 := sv_29 hV1 f f2
  refine ⟨⟨fun a h1 h2 _ _ _ => by rw [f a h2, mW_ne h1], fun b h1 h2 => by rw [f 17 (by decide), mW_17 h1 h2]⟩, hV2, Or.inl ⟨by rw [f 17 (by decide), mW_11], fun g hg => ?_⟩⟩
  obtain ⟨d, h1, h2, h3⟩ := h
  have eD : dN (mW M W) = (M 17 0).toNat := by
    unfold dN
    rw [mW_17 (by decide) (by decide)]
  refine cp_at hV1 h1 h2 (n := (M 17 0).toNat) (k := 0) (s := 0) (rl := M 19) (g := g) (by rw [eD]; omega) (Nat.zero_le d) ?_ h3
  rw [mW_j]
  exact hg
