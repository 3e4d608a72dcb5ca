def dN (M : sx_M0) : Nat := (M 17 0).toNat
def LRok (M : sx_M0) : Prop := ∀ k, k ≤ dN M → ∀ s rl g, CP (jS M) (dN M - k) k s rl g → M 29 k ≤ sm (jS M) (dN M - k) k g
def otS (M : sx_M0) (k : Nat) (g : Nat → Int) : Nat → Int := fun d => if k ≤ d ∧ d < dN M then g d else M 31 d
def gFr (M M' : sx_M0) (k : Nat) : Prop := (∀ a, a ≠ 17 → a ≠ 31 → a ≠ 32 → M' a = M a) ∧ (∀ b, b ≠ 11 → M' 17 b = M 17 b) ∧ (∀ b, b < k → M' 31 b = M 31 b) ∧ (∀ b, M 18 b = 0 → M' 31 b = M 31 b) ∧ (∀ b, dN M ≤ b → M' 31 b = M 31 b) ∧ (-1 ≤ M' 17 11 ∧ M' 17 11 ≤ 100000000)
def gvP (M M' : sx_M0) (k s : Nat) (c : Int) : Prop := gFr M M' k ∧ Im (M 17 13) (CP (jS M) (dN M - k) k s (M 30)) (fun g => c + sm (jS M) (dN M - k) k g) (lx (dN M - k) k) (otS M k) (M 17 11) (M 32) (M' 17 11) (M' 32)
def gvI (M : sx_M0) (k s : Nat) (c : Int) : Prop := sv M ∧ LRok M ∧ (∀ p, p < 5 → 0 ≤ M 30 p ∧ M 30 p ≤ 1000) ∧ (∀ d, d < 6 → M 18 d = 0 → M 31 d = -1) ∧ k ≤ dN M ∧ s < 32 ∧ 0 ≤ c ∧ c ≤ 1500000 * (k : Int)
theorem gvP_up {M M' : sx_M0} {k s : Nat} {c : Int} (hk : k < dN M) (h0 : M 18 k = 0) (h31 : M 31 k = -1) (h : gvP M M' (k + 1) s c) : gvP M M' k s c := by
  obtain ⟨⟨f1, f2, f3, f4, f5, f6⟩, hI⟩ := h
  refine ⟨⟨f1, f2, fun b hb => f3 b (by omega), f4, f5, f6⟩, ?_⟩
  have en : dN M - k = dN M - (k + 1) + 1 := by omega
  rw [en]
  have hj : (jS M).2.2.1 k = 0 := h0
  refine Im_map (fun g => fun e => if e = k then -1 else g e) ?_ ?_ ?_ hI
  · intro g hg
    have hc : ∀ e, k + 1 ≤ e → g e = (fun e => if e = k then (-1 : Int) else g e) e := fun e he => by
      show g e = if e = k then -1 else g e
      rw [if_neg (by omega)]
    refine ⟨Or.inl ⟨hj, if_pos rfl, CP_congr hc hg⟩, ?_, fun d hd => ?_⟩
    · show c + ((if (jS M).2.2.1 k = 0 then 0 else _) + sm _ _ _ _) = _
      rw [if_pos hj, sm_congr (h := g) (fun e he => (hc e he).symm)]
      omega
    · unfold otS
      by_cases hdk : d = k
      · subst hdk
        rw [if_pos (⟨Nat.le_refl d, hk⟩ : d ≤ d ∧ d < dN M), if_neg (by omega : ¬ (d + 1 ≤ d ∧ d < dN M))]
        show (if d = d then (-1 : Int) else g d) = M 31 d
        rw [if_pos rfl]
        exact h31.symm
      · by_cases h1 : k + 1 ≤ d ∧ d < dN M
        · rw [if_pos h1, if_pos (⟨by omega, h1.2⟩ : k ≤ d ∧ d < dN M)]
          exact if_neg hdk
        · rw [if_neg h1, if_neg (by omega)]
  · intro g hg
    rcases hg with ⟨-, q2, q3⟩ | ⟨q1, -⟩
    · refine ⟨q3, ?_⟩
      show c + ((if (jS M).2.2.1 k = 0 then 0 else _) + sm _ _ _ _) = _
      rw [if_pos hj]
      omega
    · exact absurd hj q1
  · intro g h hg hh hl
    refine Or.inr ⟨?_, lx_congr (fun e he => ?_) (fun _ _ => rfl) hl⟩
    · rcases hh with ⟨-, q2, -⟩ | ⟨q1, -⟩
      · show (if k = k then (-1 : Int) else g k) = h k
        rw [if_pos rfl, q2]
      · exact absurd hj q1
    · show g e = if e = k then -1 else g e
      rw [if_neg (by omega)]
theorem gvP_nw {M M' : sx_M0} {s : Nat} {c : Int} (h31 : ∀ d, d < 6 → M 18 d = 0 → M 31 d = -1) (hD : dN M ≤ 6) : ∀ (n k : Nat), k + n = dN M → gvP M M' (nwS M n k) s c → gvP M M' k s c
  | 0, k, _, h => h
  | n + 1, k, e, h => by
    by_cases hz : M 18 k = 0
    · rw [nwS_z hz] at h
      exact gvP_up (by omega) hz (h31 k (by omega) hz) (gvP_nw h31 hD n (k + 1) (by omega) h)
    · have e2 : nwS M (n + 1) k = k := by
        show (if M 18 k = 0 then nwS M n (k + 1) else k) = k
        rw [if_neg hz]
      rw [e2] at h
      exact h
theorem nwS_at (M : sx_M0) : ∀ (n k : Nat), nwS M n k < k + n → M 18 (nwS M n k) ≠ 0
  | 0, k, h => by simp [nwS] at h
  | n + 1, k, h => by
    by_cases hz : M 18 k = 0
    · rw [nwS_z hz] at h ⊢
      exact nwS_at M n (k + 1) (by omega)
    · have e2 : nwS M (n + 1) k = k := by
        show (if M 18 k = 0 then nwS M n (k + 1) else k) = k
        rw [if_neg hz]
      rw [e2]
      exact hz
theorem kbS_fr {M : sx_M0} {c : Int} (hs : M 17 11 = -1 ∨ c < M 17 11) : (∀ a, a ≠ 17 → a ≠ 32 → kbS M c a = M a) ∧ (∀ b, b ≠ 11 → kbS M c 17 b = M 17 b) ∧ kbS M c 17 11 = c ∧ ∀ d, d < 6 → kbS M c 32 d = M 31 d := by
  unfold kbS
  rw [if_pos hs]
  refine ⟨fun a h1 h2 => ?_, fun b hb => ?_, ?_, fun d hd => ?_⟩
  · funext b
    simp [sx_cpy, sx_up, h1, h2]
  · simp [sx_cpy, sx_up, hb]
  · simp [sx_cpy, sx_up]
  · simp [sx_cpy, sx_up, hd]
/-- nothing is left to give: the plan is kept, if it is better -/
theorem gvP_end {M : sx_M0} {s : Nat} {c : Int} (hV : sv M) (hc0 : 0 ≤ c) (hc1 : c ≤ 100000000) (hs : s < 32) : gvP M (kbS M c) (dN M) s c := by
  have e0 : dN M - dN M = 0 := by omega
  by_cases h : M 17 11 = -1 ∨ c < M 17 11
  · obtain ⟨k1, k2, k3, k4⟩ := kbS_fr h
    refine ⟨⟨fun a h1 _ h3 => k1 a h1 h3, k2, fun b _ => by rw [k1 31 (by decide) (by decide)], fun b _ => by rw [k1 31 (by decide) (by decide)], fun b _ => by rw [k1 31 (by decide) (by decide)], by rw [k3]; omega⟩, ?_⟩
    rw [e0, k3]
    refine Or.inr ⟨fun _ => -1, trivial, by show c = c + 0; omega, h, fun d hd => ?_, fun _ g _ => ⟨by show c ≤ c + 0; omega, fun _ => trivial⟩⟩
    rw [k4 d hd]
    unfold otS
    rw [if_neg (by omega)]
  · have e : kbS M c = M := by
      unfold kbS
      rw [if_neg h]
    rw [e]
    have q := hV.2.2.2.2.2.2.2.2
    refine ⟨⟨fun _ _ _ _ => rfl, fun _ _ => rfl, fun _ _ => rfl, fun _ _ => rfl, fun _ _ => rfl, q⟩, Im_none fun g _ => ⟨by omega, fun _ => ?_⟩⟩
    rw [e0]
    show M 17 11 ≤ c + 0
    omega
/-- no plan from here on can be better -/
theorem gvP_hope {M : sx_M0} {k s : Nat} {c : Int} (hV : sv M) (hL : LRok M) (hk : k ≤ dN M) (h : M 17 11 ≠ -1 ∧ (M 17 13 = 1 ∨ M 17 11 ≤ c + M 29 k)) : gvP M M k s c := by
  refine ⟨⟨fun _ _ _ _ => rfl, fun _ _ => rfl, fun _ _ => rfl, fun _ _ => rfl, fun _ _ => rfl, hV.2.2.2.2.2.2.2.2⟩, Im_none fun g hg => ⟨h.1, fun hf => ?_⟩⟩
  have := hL k hk s (M 30) g hg
  show M 17 11 ≤ c + sm _ _ _ _
  omega

theorem jS_eq {M M' : sx_M0} (h17 : ∀ b, b ≠ 11 → M' 17 b = M 17 b) (h : ∀ a, a ≠ 17 → a ≠ 30 → a ≠ 31 → a ≠ 32 → M' a = M a) : jS M' = jS M := by
  unfold jS
  rw [h17 0 (by decide), h17 1 (by decide), h17 12 (by decide), h 18 (by decide) (by decide) (by decide) (by decide), h 27 (by decide) (by decide) (by decide) (by decide)]
  have e : (fun d p => if d < 6 then M' (20 + 1 + d) p else 0) = (fun d p => if d < 6 then M (20 + 1 + d) p else 0) := by
    funext d p
    by_cases hd : d < 6
    · rw [if_pos hd, if_pos hd, h (20 + 1 + d) (by omega) (by omega) (by omega) (by omega)]
    · rw [if_neg hd, if_neg hd]
  rw [e]
theorem dN_eq {M M' : sx_M0} (h17 : ∀ b, b ≠ 11 → M' 17 b = M 17 b) : dN M' = dN M := by
  unfold dN
  rw [h17 0 (by decide)]
theorem sm_nn {M : sx_M0} (hV : sv M) : ∀ {n k s : Nat} {rl g : Nat → Int}, k + n ≤ 6 → CP (jS M) n k s rl g → 0 ≤ sm (jS M) n k g
  | 0, _, _, _, _, _, _ => Int.le_refl 0
  | n + 1, k, s, rl, g, hk, h => by
    unfold sm
    rcases h with ⟨h1, -, h3⟩ | ⟨h1, p, hp, h2, -, h4, -, -, h7⟩
    · rw [if_pos h1]
      have := sm_nn hV (by omega) h3
      omega
    · rw [if_neg h1]
      have q := sm_nn hV (by omega) h7
      have hp5 : p < 5 := by
        have := hV.2.1
        have hp' : p < (M 17 1).toNat := hp
        omega
      have hr := hV.2.2.2.1 k p (by omega) hp5
      have e : (jS M).2.2.2.1 k p = M (20 + 1 + k) p := if_pos (by omega)
      have hn := (hV.2.2.1 k (by omega)).1
      rw [e] at h4
      rw [h2, Int.toNat_natCast, e]
      have : 0 ≤ (jS M).2.2.1 k * M (20 + 1 + k) p := Int.mul_nonneg hn (by omega)
      omega
/-- between two places of the loop: of the plans that give district d one of the first p places the best is kept -/
def gepI (M0 M : sx_M0) (d s : Nat) (c : Int) (p : Nat) : Prop := gFr M0 M d ∧ Im (M0 17 13) (fun g => CP (jS M0) (dN M0 - d) d s (M0 30) g ∧ g d < (p : Int)) (fun g => c + sm (jS M0) (dN M0 - d) d g) (lx (dN M0 - d) d) (otS M0 d) (M0 17 11) (M0 32) (M 17 11) (M 32)
theorem CP_head {J : mt_J} {n d s : Nat} {rl g : Nat → Int} (hn : J.2.2.1 d ≠ 0) (h : CP J (n + 1) d s rl g) : ∃ p : Nat, p < J.2.1 ∧ g d = (p : Int) ∧ J.2.2.2.2.2.testBit p = true ∧ J.2.2.2.1 d p ≠ -1 ∧ J.2.2.1 d ≤ rl p ∧ J.2.2.2.2.1 (s ||| 2 ^ p) = 1 ∧ CP J n (d + 1) (s ||| 2 ^ p) (fun q => if q = p then rl q - J.2.2.1 d else rl q) g := by
  rcases h with ⟨h1, -⟩ | ⟨-, h⟩
  · exact absurd h1 hn
  · exact h
theorem gep_0 {M0 : sx_M0} {d s : Nat} {c : Int} (hV : sv M0) (hd : d < dN M0) (hn : M0 18 d ≠ 0) : gepI M0 M0 d s c 0 := by
  refine ⟨⟨fun _ _ _ _ => rfl, fun _ _ => rfl, fun _ _ => rfl, fun _ _ => rfl, fun _ _ => rfl, hV.2.2.2.2.2.2.2.2⟩, Im_none fun g hg => ?_⟩
  obtain ⟨h1, h2⟩ := hg
  rw [show dN M0 - d = dN M0 - (d + 1) + 1 by omega] at h1
  obtain ⟨p, -, h3, -⟩ := CP_head hn h1
  omega
theorem gep_end {M0 M : sx_M0} {d s p : Nat} {c : Int} (hd : d < dN M0) (hn : M0 18 d ≠ 0) (hp : p = (M0 17 1).toNat) (h : gepI M0 M d s c p) : gvP M0 M d s c := by
  refine ⟨h.1, Im_map id (fun g hg => ⟨hg.1, rfl, fun _ _ => rfl⟩) (fun g hg => ⟨⟨hg, ?_⟩, rfl⟩) (fun _ _ _ _ q => q) h.2⟩
  rw [show dN M0 - d = dN M0 - (d + 1) + 1 by omega] at hg
  obtain ⟨q, h2, h3, -⟩ := CP_head hn hg
  have h2' : q < (M0 17 1).toNat := h2
  omega
theorem gep_skip {M0 M : sx_M0} {d s p : Nat} {c : Int} (hd : d < dN M0) (hd6 : d < 6) (hn : M0 18 d ≠ 0) (hno : ¬ ((jS M0).2.2.2.2.2.testBit p = true ∧ M0 (20 + 1 + d) p ≠ -1 ∧ M0 18 d ≤ M0 30 p ∧ M0 27 (s ||| 2 ^ p) = 1)) (h : gepI M0 M d s c p) : gepI M0 M d s c (p + 1) := by
  refine ⟨h.1, Im_map id (fun g hg => ⟨⟨hg.1, ?_⟩, rfl, fun _ _ => rfl⟩) (fun g hg => ⟨⟨hg.1, ?_⟩, rfl⟩) (fun _ _ _ _ q => q) h.2⟩
  · have := hg.2
    show g d < ((p + 1 : Nat) : Int)
    omega
  · obtain ⟨h1, h2⟩ := hg
    rw [show dN M0 - d = dN M0 - (d + 1) + 1 by omega] at h1
    obtain ⟨q, h3, h4, h5, h6, h7, h8, -⟩ := CP_head hn h1
    have e : (jS M0).2.2.2.1 d q = M0 (20 + 1 + d) q := if_pos hd6
    rw [e] at h6
    by_cases hq : q = p
    · subst hq
      exact absurd ⟨h5, h6, h7, h8⟩ hno
    · omega
theorem gep_take {M0 M M2 : sx_M0} {d s p : Nat} {c : Int} (hV : sv M0) (hd : d < dN M0) (hd6 : d < 6) (hp : p < (M0 17 1).toNat) (hn : M0 18 d ≠ 0) (hy : (jS M0).2.2.2.2.2.testBit p = true ∧ M0 (20 + 1 + d) p ≠ -1 ∧ M0 18 d ≤ M0 30 p ∧ M0 27 (s ||| 2 ^ p) = 1) (hc : 0 ≤ c) (h : gepI M0 M d s c p)
    (h2 : gvP (sx_up (sx_up M 30 p (M 30 p - M 18 d)) 31 d (p : Int)) M2 (d + 1) (s ||| 2 ^ p) (c + M 18 d * M (20 + 1 + d) p)) : gepI M0 (sx_up M2 30 p (M2 30 p + M2 18 d)) d s c (p + 1) := by
  obtain ⟨⟨f1, f2, f3, f4, f5, f6⟩, hI⟩ := h
  obtain ⟨⟨g1, g2, g3, g4, g5, g6⟩, hJ⟩ := h2
  have h30 : M 30 = M0 30 := f1 30 (by decide) (by decide) (by decide)
  have h18 : M 18 = M0 18 := f1 18 (by decide) (by decide) (by decide)
  generalize hM1 : sx_up (sx_up M 30 p (M 30 p - M 18 d)) 31 d (p : Int) = M1 at g1 g2 g3 g4 g5 hJ
  have m1 : ∀ a, a ≠ 30 → a ≠ 31 → M1 a = M a := fun a ha hb => by rw [← hM1, sx_up_ne hb, sx_up_ne ha]
  have m30 : M1 30 = fun q => if q = p then M0 30 q - M0 18 d else M0 30 q := by
    rw [← hM1, sx_up_ne (by decide)]
    funext q
    by_cases hq : q = p
    · subst hq
      rw [sx_up_at, if_pos rfl, h30, h18]
    · rw [sx_up_slot hq, if_neg hq, h30]
  have m31 : ∀ b, M1 31 b = if b = d then (p : Int) else M 31 b := fun b => by
    rw [← hM1]
    by_cases hb : b = d
    · subst hb
      rw [sx_up_at, if_pos rfl]
    · rw [sx_up_slot hb, if_neg hb, sx_up_ne (by decide)]
  have e17 : ∀ b, b ≠ 11 → M1 17 b = M0 17 b := fun b hb => by rw [m1 17 (by decide) (by decide)]; exact f2 b hb
  have eJ : jS M1 = jS M0 := jS_eq e17 (fun a h1 h2 h3 h4 => (m1 a h2 h3).trans (f1 a h1 h3 h4))
  have eD : dN M1 = dN M0 := dN_eq e17
  have eR : M (20 + 1 + d) = M0 (20 + 1 + d) := f1 _ (by omega) (by omega) (by omega)
  have x30 : sx_up M2 30 p (M2 30 p + M2 18 d) 30 = M0 30 := by
    have q1 : M2 30 = M1 30 := g1 30 (by decide) (by decide) (by decide)
    have q2 : M2 18 = M0 18 := (g1 18 (by decide) (by decide) (by decide)).trans ((m1 18 (by decide) (by decide)).trans h18)
    funext b
    by_cases hb : b = p
    · subst hb
      rw [sx_up_at, q1, q2, m30]
      show (if b = b then M0 30 b - M0 18 d else M0 30 b) + M0 18 d = M0 30 b
      rw [if_pos rfl]
      omega
    · rw [sx_up_slot hb, q1, m30]
      show (if b = p then M0 30 b - M0 18 d else M0 30 b) = M0 30 b
      rw [if_neg hb]
  have x17 : sx_up M2 30 p (M2 30 p + M2 18 d) 17 = M2 17 := sx_up_ne (by decide)
  have x31 : sx_up M2 30 p (M2 30 p + M2 18 d) 31 = M2 31 := sx_up_ne (by decide)
  have x32 : sx_up M2 30 p (M2 30 p + M2 18 d) 32 = M2 32 := sx_up_ne (by decide)
  refine ⟨⟨fun a h1 h2 h3 => ?_, fun b hb => ?_, fun b hb => ?_, fun b hb => ?_, fun b hb => ?_, by rw [x17]; exact g6⟩, ?_⟩
  · by_cases ha : a = 30
    · subst ha
      exact x30
    · rw [sx_up_ne ha, g1 a h1 h2 h3, m1 a ha h2]
      exact f1 a h1 h2 h3
  · rw [x17, g2 b hb]
    exact e17 b hb
  · rw [x31, g3 b (by omega), m31, if_neg (by omega)]
    exact f3 b hb
  · have hbd : b ≠ d := fun e => hn (by rw [← e]; exact hb)
    rw [x31, g4 b (by rw [m1 18 (by decide) (by decide), h18]; exact hb), m31, if_neg hbd]
    exact f4 b hb
  · rw [x31, g5 b (by rw [eD]; exact hb), m31, if_neg (by omega)]
    exact f5 b hb
  · rw [x17, x32]
    have en : dN M0 - d = dN M0 - (d + 1) + 1 := by omega
    have eP : (jS M0).2.2.2.1 d p = M0 (20 + 1 + d) p := if_pos hd6
    rw [eJ, eD, m30, h18, eR, e17 13 (by decide), m1 17 (by decide) (by decide), m1 32 (by decide) (by decide)] at hJ
    have hK : Im (M0 17 13) (fun g => CP (jS M0) (dN M0 - d) d s (M0 30) g ∧ g d = (p : Int)) (fun g => c + sm (jS M0) (dN M0 - d) d g) (lx (dN M0 - d) d) (otS M0 d) (M 17 11) (M 32) (M2 17 11) (M2 32) := by
      rw [en]
      refine Im_map (fun g => fun e => if e = d then (p : Int) else g e) ?_ ?_ ?_ hJ
      · intro g hg
        have hcg : ∀ e, d + 1 ≤ e → g e = (fun e => if e = d then (p : Int) else g e) e := fun e he => by
          show g e = if e = d then (p : Int) else g e
          rw [if_neg (by omega)]
        have hgd : (fun e => if e = d then (p : Int) else g e) d = (p : Int) := if_pos rfl
        refine ⟨⟨Or.inr ⟨hn, p, hp, hgd, hy.1, by rw [eP]; exact hy.2.1, hy.2.2.1, hy.2.2.2, CP_congr hcg hg⟩, hgd⟩, ?_, fun x hx => ?_⟩
        · show c + ((if (jS M0).2.2.1 d = 0 then 0 else (jS M0).2.2.1 d * (jS M0).2.2.2.1 d ((fun e => if e = d then (p : Int) else g e) d).toNat) + sm _ _ _ _) = _
          rw [if_neg (show ¬ (jS M0).2.2.1 d = 0 from hn), hgd, Int.toNat_natCast, eP, sm_congr (h := g) (fun e he => (hcg e he).symm)]
          show c + (M0 18 d * M0 (20 + 1 + d) p + _) = c + M0 18 d * M0 (20 + 1 + d) p + _
          omega
        · unfold otS
          rw [eD]
          by_cases hxd : x = d
          · subst hxd
            rw [if_pos (⟨Nat.le_refl x, hd⟩ : x ≤ x ∧ x < dN M0), if_neg (by omega : ¬ (x + 1 ≤ x ∧ x < dN M0)), m31, if_pos rfl]
            exact if_pos rfl
          · by_cases h1 : d + 1 ≤ x ∧ x < dN M0
            · rw [if_pos h1, if_pos (⟨by omega, h1.2⟩ : d ≤ x ∧ x < dN M0)]
              exact if_neg hxd
            · rw [if_neg h1, if_neg (by omega), m31, if_neg hxd]
              rcases Nat.lt_or_ge x d with q | q
              · exact (f3 x q).symm
              · exact (f5 x (by omega)).symm
      · intro g hg
        obtain ⟨q1, q2⟩ := hg
        obtain ⟨r, -, r3, -, -, -, -, r8⟩ := CP_head hn q1
        have er : r = p := by omega
        subst er
        refine ⟨r8, ?_⟩
        show c + ((if (jS M0).2.2.1 d = 0 then 0 else (jS M0).2.2.1 d * (jS M0).2.2.2.1 d (g d).toNat) + sm _ _ _ _) = c + M0 18 d * M0 (20 + 1 + d) r + _
        rw [if_neg (show ¬ (jS M0).2.2.1 d = 0 from hn), q2, Int.toNat_natCast, eP]
        show c + (M0 18 d * M0 (20 + 1 + d) r + _) = _
        omega
      · intro g h hg hh hl
        refine Or.inr ⟨?_, lx_congr (fun e he => ?_) (fun _ _ => rfl) hl⟩
        · show (if d = d then (p : Int) else g d) = h d
          rw [if_pos rfl, hh.2]
        · show g e = if e = d then (p : Int) else g e
          rw [if_neg (by omega)]
    have hD6 : dN M0 ≤ 6 := by
      have := hV.1
      unfold dN
      omega
    refine Im_comp (fun g => ?_) (fun g hg => ?_) (fun g h hg hh => ?_) hI hK
    · constructor
      · rintro ⟨q1, q2⟩
        have q2' : g d < ((p + 1 : Nat) : Int) := q2
        by_cases q3 : g d < (p : Int)
        · exact Or.inl ⟨q1, q3⟩
        · exact Or.inr ⟨q1, by omega⟩
      · rintro (⟨q1, q2⟩ | ⟨q1, q2⟩)
        · exact ⟨q1, by show g d < ((p + 1 : Nat) : Int); omega⟩
        · exact ⟨q1, by show g d < ((p + 1 : Nat) : Int); omega⟩
    · have := sm_nn hV (by omega) hg.1
      show 0 ≤ c + sm _ _ _ _
      omega
    · rw [en]
      exact Or.inl (by have := hg.2; have := hh.2; omega)

theorem sv_fr {M0 M : sx_M0} {k : Nat} (hV : sv M0) (h : gFr M0 M k) : sv M := by
  obtain ⟨f1, f2, -, -, -, f6⟩ := h
  unfold sv at hV ⊢
  rw [f2 0 (by decide), f2 1 (by decide), f2 12 (by decide), f2 13 (by decide), f1 18 (by decide) (by decide) (by decide), f1 27 (by decide) (by decide) (by decide), f1 29 (by decide) (by decide) (by decide)]
  refine ⟨hV.1, hV.2.1, hV.2.2.1, fun d p hd hp => ?_, hV.2.2.2.2.1, hV.2.2.2.2.2.1, hV.2.2.2.2.2.2.1, hV.2.2.2.2.2.2.2.1, f6⟩
  rw [f1 (20 + 1 + d) (by omega) (by omega) (by omega)]
  exact hV.2.2.2.1 d p hd hp
theorem mul_bd {a b : Int} (h1 : 0 ≤ a) (h2 : a ≤ 150) (h3 : 0 ≤ b) (h4 : b ≤ 10000) : 0 ≤ a * b ∧ a * b ≤ 1500000 := by
  refine ⟨Int.mul_nonneg h1 h3, ?_⟩
  have : a * b ≤ 150 * 10000 := Int.mul_le_mul h2 h4 h3 (by omega)
  omega
theorem gvI_take {M0 M : sx_M0} {d s p : Nat} {c : Int} (hI : gvI M0 d s c) (hF : gFr M0 M d) (hd : d < dN M0) (hp : p < 5) (hn : M0 18 d ≠ 0) (hr : M0 (20 + 1 + d) p ≠ -1) (hl : M0 18 d ≤ M0 30 p) : gvI (sx_up (sx_up M 30 p (M 30 p - M 18 d)) 31 d (p : Int)) (d + 1) (s ||| 2 ^ p) (c + M 18 d * M (20 + 1 + d) p) := by
  obtain ⟨hV, hL, h30, h31, hk, hs, hc0, hc1⟩ := hI
  have hVM := sv_fr hV hF
  obtain ⟨f1, f2, f3, f4, f5, f6⟩ := hF
  have e30 : M 30 = M0 30 := f1 30 (by decide) (by decide) (by decide)
  have e18 : M 18 = M0 18 := f1 18 (by decide) (by decide) (by decide)
  have hD6 : dN M0 ≤ 6 := by
    have := hV.1
    unfold dN
    omega
  have eR : M (20 + 1 + d) = M0 (20 + 1 + d) := f1 _ (by omega) (by omega) (by omega)
  generalize hM1 : sx_up (sx_up M 30 p (M 30 p - M 18 d)) 31 d (p : Int) = M1
  have m1 : ∀ a, a ≠ 30 → a ≠ 31 → M1 a = M a := fun a ha hb => by rw [← hM1, sx_up_ne hb, sx_up_ne ha]
  have m30 : ∀ q, M1 30 q = if q = p then M0 30 q - M0 18 d else M0 30 q := fun q => by
    rw [← hM1, sx_up_ne (by decide)]
    by_cases hq : q = p
    · subst hq
      rw [sx_up_at, if_pos rfl, e30, e18]
    · rw [sx_up_slot hq, if_neg hq, e30]
  have m31 : ∀ b, b ≠ d → M1 31 b = M 31 b := fun b hb => by rw [← hM1, sx_up_slot hb, sx_up_ne (by decide)]
  have e17 : ∀ b, b ≠ 11 → M1 17 b = M0 17 b := fun b hb => by rw [m1 17 (by decide) (by decide)]; exact f2 b hb
  have eJ : jS M1 = jS M0 := jS_eq e17 (fun a h1 h2 h3 h4 => (m1 a h2 h3).trans (f1 a h1 h3 h4))
  have eD : dN M1 = dN M0 := dN_eq e17
  refine ⟨?_, ?_, fun q hq => ?_, fun b hb h0 => ?_, by rw [eD]; omega, (or_bit s hs p hp).2, ?_, ?_⟩
  · unfold sv at hVM ⊢
    rw [m1 17 (by decide) (by decide), m1 18 (by decide) (by decide), m1 27 (by decide) (by decide), m1 29 (by decide) (by decide)]
    refine ⟨hVM.1, hVM.2.1, hVM.2.2.1, fun x y hx hy => ?_, hVM.2.2.2.2⟩
    rw [m1 (20 + 1 + x) (by omega) (by omega)]
    exact hVM.2.2.2.1 x y hx hy
  · intro k hk2 s2 rl2 g2 hg2
    rw [eJ, eD] at hg2 ⊢
    rw [eD] at hk2
    rw [m1 29 (by decide) (by decide), f1 29 (by decide) (by decide) (by decide)]
    exact hL k hk2 s2 rl2 g2 hg2
  · have := h30 q hq
    have hn0 := hV.2.2.1 d (by omega)
    rw [m30]
    by_cases hqp : q = p
    · subst hqp
      rw [if_pos rfl]
      omega
    · rw [if_neg hqp]
      exact this
  · rw [m1 18 (by decide) (by decide), e18] at h0
    have hbd : b ≠ d := fun e => hn (by rw [← e]; exact h0)
    rw [m31 b hbd, f4 b h0]
    exact h31 b hb h0
  · have q1 := hV.2.2.1 d (by omega)
    have q2 := hV.2.2.2.1 d p (by omega) hp
    rw [e18, eR]
    have := mul_bd q1.1 q1.2 (show 0 ≤ M0 (20 + 1 + d) p by omega) q2.2
    omega
  · have q1 := hV.2.2.1 d (by omega)
    have q2 := hV.2.2.2.1 d p (by omega) hp
    rw [e18, eR]
    have := mul_bd q1.1 q1.2 (show 0 ≤ M0 (20 + 1 + d) p by omega) q2.2
    show _ ≤ 1500000 * ((d + 1 : Nat) : Int)
    have e : ((d + 1 : Nat) : Int) = (d : Int) + 1 := rfl
    rw [e]
    omega
abbrev rmG (n : Nat) : Room := rmk (4 + 3 * n) (200 + 100 * n)
abbrev rmE (n : Nat) : Room := rmk (5 + 3 * n) (230 + 100 * n)
/-- the contract of give, with n districts left at most -/
def ctG (l : Launch) (D : va_G) (tc : Nat → ClassId) (n : Nat) : Prop := ∀ (M : sx_M0) (k s : Nat) (c : Int), gvI M k s c → dN M - k ≤ n → sx_Met SC l D tc y_Se_give w_Se_give (rmG n) [sx_A 17, sx_I ((k : Nat) : Int), sx_I ((s : Nat) : Int), sx_J c] GL M (fun r G' M' => G' = GL ∧ r = none ∧ gvP M M' k s c)
