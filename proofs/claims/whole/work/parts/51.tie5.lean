/-! THE TIE, 5: chains of exchanges -/
def rkF (M : sx_M0) (d : Nat) (x : Int) : Nat → Nat
  | 0 => 0
  | q + 1 => rkF M d x q + (if M (4 + 1 + d) q < x then 1 else 0)
theorem rk_le {M : sx_M0} {d : Nat} {x : Int} : ∀ n, rkF M d x n ≤ n
  | 0 => Nat.le_refl 0
  | n + 1 => by
    have := rk_le (M := M) (d := d) (x := x) n
    show rkF M d x n + (if M (4 + 1 + d) n < x then 1 else 0) ≤ n + 1
    split <;> omega
theorem rk_mono {M : sx_M0} {d : Nat} {x y : Int} (h : x ≤ y) : ∀ n, rkF M d x n ≤ rkF M d y n
  | 0 => Nat.le_refl 0
  | n + 1 => by
    have := rk_mono (M := M) (d := d) h n
    show rkF M d x n + (if M (4 + 1 + d) n < x then 1 else 0) ≤ rkF M d y n + (if M (4 + 1 + d) n < y then 1 else 0)
    by_cases c : M (4 + 1 + d) n < x
    · rw [if_pos c, if_pos (by omega)]
      omega
    · rw [if_neg c]
      split <;> omega
theorem rk_lt {M : sx_M0} {d p : Nat} {x y : Int} (h : x < y) (hx : M (4 + 1 + d) p = x) : ∀ n, p < n → rkF M d x n < rkF M d y n
  | 0, h0 => by omega
  | n + 1, h0 => by
    show rkF M d x n + (if M (4 + 1 + d) n < x then 1 else 0) < rkF M d y n + (if M (4 + 1 + d) n < y then 1 else 0)
    by_cases e : p = n
    · subst e
      have := rk_mono (M := M) (d := d) (x := x) (y := y) (by omega) p
      rw [if_neg (by omega), if_pos (by omega)]
      omega
    · have := rk_lt h hx n (by omega)
      by_cases c : M (4 + 1 + d) n < x
      · rw [if_pos c, if_pos (by omega)]
        omega
      · rw [if_neg c]
        split <;> omega
def phF (M : sx_M0) (g : Nat → Int) : Nat → Nat
  | 0 => 0
  | d + 1 => phF M g d + (if 0 ≤ g d then rkF M d (M (4 + 1 + d) (g d).toNat) 5 else 0)
theorem ph_le {M : sx_M0} {g : Nat → Int} : ∀ n, phF M g n ≤ 5 * n
  | 0 => Nat.le_refl 0
  | n + 1 => by
    have := ph_le (M := M) (g := g) n
    have := rk_le (M := M) (d := n) (x := M (4 + 1 + n) (g n).toNat) 5
    show phF M g n + (if 0 ≤ g n then rkF M n (M (4 + 1 + n) (g n).toNat) 5 else 0) ≤ _
    split <;> omega
theorem ph_same {M : sx_M0} {g : Nat → Int} {d : Nat} {p : Int} : ∀ n, n ≤ d → phF M (upf g d p) n = phF M g n
  | 0, _ => rfl
  | n + 1, h => by
    show phF M (upf g d p) n + (if 0 ≤ upf g d p n then rkF M n (M (4 + 1 + n) (upf g d p n).toNat) 5 else 0) = phF M g n + (if 0 ≤ g n then rkF M n (M (4 + 1 + n) (g n).toNat) 5 else 0)
    rw [ph_same n (by omega), show upf g d p n = g n from if_neg (by omega)]
theorem ph_lt {M : sx_M0} {g : Nat → Int} {d p : Nat} (hp : p < 5) (h0 : 0 ≤ g d) (h : M (4 + 1 + d) p < M (4 + 1 + d) (g d).toNat) : ∀ n, d < n → phF M (upf g d (p : Int)) n < phF M g n
  | 0, h1 => by omega
  | n + 1, h1 => by
    show phF M (upf g d (p : Int)) n + (if 0 ≤ upf g d (p : Int) n then rkF M n (M (4 + 1 + n) (upf g d (p : Int) n).toNat) 5 else 0) < phF M g n + (if 0 ≤ g n then rkF M n (M (4 + 1 + n) (g n).toNat) 5 else 0)
    by_cases e : d = n
    · subst e
      rw [ph_same d (Nat.le_refl d), show upf g d (p : Int) d = (p : Int) from if_pos rfl, if_pos (by omega), if_pos h0, Int.toNat_natCast]
      have := rk_lt h rfl 5 hp
      omega
    · have := ph_lt hp h0 h n (by omega)
      rw [show upf g d (p : Int) n = g n from if_neg (by omega)]
      omega
theorem st_up34 {L : sx_M0} {g : Nat → Int} {d : Nat} {p : Int} : sx_up (st34 L g) 34 d p 34 = upf g d p := by
  funext b
  unfold sx_up upf
  rw [st34_at]
  by_cases q : b = d
  · rw [if_pos ⟨rfl, q⟩, if_pos q]
  · rw [if_neg (fun z => q z.2), if_neg q]
theorem st_ph {L : sx_M0} (hT : tw L) {g g' : Nat → Int} (h : stepX L g g') : phF L g' 6 < phF L g 6 := by
  obtain ⟨d, p, h1, h2⟩ := h
  have g0 := hT.1
  have g1 := hT.2.1
  rw [st_up34] at h2
  subst h2
  obtain ⟨x1, x2, x3, _⟩ := h1
  rw [st34_ne (a := 1) (by decide)] at x1 x2
  unfold exS at x3
  rw [st34_at, st34_ne (a := 1) (by decide), st34_ne (a := 4 + 1 + d) (by omega)] at x3
  have e : rcS (st34 L g) d p = rcS L d p := by
    unfold rcS
    rw [st34_ne (a := 1) (by decide), st34_ne (a := 16) (by decide), st34_ne (a := 4 + 1 + d) (by omega), st34_ne (a := 3) (by decide)]
  rw [e] at x3
  have e2 : rcS L d p = L (4 + 1 + d) p := by
    by_cases c : L 16 p = 0 ∧ cgS L d p
    · exact (rc_yes (by omega) (by omega) c.1 c.2).1
    · refine absurd (rc_no ?_) x3.2.1
      by_cases z : L 16 p = 0
      · exact Or.inr (fun w => c ⟨z, w⟩)
      · exact Or.inl z
  exact ph_lt (by omega) x3.1.1 (by rw [← e2]; exact x3.2.2.1) 6 (by omega)
theorem ch_ph {L : sx_M0} (hT : tw L) : ∀ {j : Nat} {g g' : Nat → Int}, chX L j g g' → j + phF L g' 6 ≤ phF L g 6
  | 0, g, g', h => by
    have : g' = g := h
    subst this
    omega
  | j + 1, g, g', h => by
    obtain ⟨g1, h1, h2⟩ := h
    have := ch_ph hT h1
    have := st_ph hT h2
    omega
theorem ch_30 {L : sx_M0} (hT : tw L) {j : Nat} {g g' : Nat → Int} (h : chX L j g g') : j ≤ 30 := by
  have := ch_ph hT h
  have := ph_le (M := L) (g := g) 6
  omega
theorem chX_cut {L : sx_M0} {i : Nat} : ∀ {j : Nat} {g g' : Nat → Int}, i < j → chX L j g g' → ∃ g1, chX L i g g1 ∧ ∃ g2, stepX L g1 g2
  | 0, _, _, h, _ => by omega
  | j + 1, g, g', h, hc => by
    obtain ⟨g1, h1, h2⟩ := hc
    by_cases e : i = j
    · subst e
      exact ⟨g1, h1, g', h2⟩
    · exact chX_cut (by omega) h1
theorem chM_cut {M : sx_M0} {ak : Nat → Int} {i : Nat} : ∀ {j : Nat} {g g' : Nat → Int}, i < j → chM M ak j g g' → ∃ g1, chM M ak i g g1 ∧ ∃ d p : Nat, mx1 M ak g1 d p
  | 0, _, _, h, _ => by omega
  | j + 1, g, g', h, hc => by
    obtain ⟨g1, h1, d, p, h2, h3⟩ := hc
    by_cases e : i = j
    · subst e
      exact ⟨g1, h1, d, p, h2⟩
    · exact chM_cut (by omega) h1
theorem tie_step {M N L : sx_M0} (hT : tw M) (hf : fr1 M N) (hL : ∀ a, L a = ldM M (-1) a) {g g' g2 : Nat → Int} (hg : ∀ d, d < 6 → g d = g' d) (hb : ∀ d, d < (M 1 0).toNat → -1 ≤ g d ∧ g d < M 1 1) (h1 : stepX L g g2) {d' p' : Nat} (h2 : mx1 N (akS N (2 ^ (N 1 0).toNat - 1) 0) g' d' p') : (∀ d, d < 6 → g2 d = upf g' d' (p' : Int) d) ∧ (∀ d, d < (M 1 0).toNat → -1 ≤ g2 d ∧ g2 d < M 1 1) := by
  obtain ⟨d, p, ⟨x1, x2, x3, x4, x5⟩, x6⟩ := h1
  obtain ⟨y1, y2, y3, y4, y5⟩ := h2
  have e1 : N 1 = M 1 := hf 1 (by decide) (by decide)
  rw [st34_ne (a := 1) (by decide), hL 1, ldM_ne hT (by decide)] at x1 x2 x4
  have y1' := y1
  have y2' := y2
  rw [e1] at y1' y2'
  have te : ∀ {e q : Nat}, e < (M 1 0).toNat → q < (M 1 1).toNat → (exS (st34 L g) e q ↔ exF N (akS N (2 ^ (N 1 0).toNat - 1) 0) g' e q) := fun he hq => tie_ex hT hf hL hg hb he hq
  have ed : d = d' := by
    rcases Nat.lt_trichotomy d d' with t | t | t
    · exact absurd ((te x1 x2).mp x3) (y4 d p t (by rw [e1]; exact x2))
    · exact t
    · exact absurd ((te y1' y2').mpr y3) (x4 d' p' t y2')
  subst ed
  have ep : p = p' := by
    rcases Nat.lt_trichotomy p p' with t | t | t
    · exact absurd ((te x1 x2).mp x3) (y5 p t)
    · exact t
    · exact absurd ((te y1' y2').mpr y3) (x5 p' t)
  subst ep
  rw [st_up34] at x6
  subst x6
  refine ⟨fun e he => ?_, upf_bd (by omega) hb⟩
  unfold upf
  by_cases q : e = d
  · rw [if_pos q, if_pos q]
  · rw [if_neg q, if_neg q, hg e he]
theorem tie_chain {M N L : sx_M0} (hT : tw M) (hf : fr1 M N) (hL : ∀ a, L a = ldM M (-1) a) {g g' : Nat → Int} (hg : ∀ d, d < 6 → g d = g' d) (hb : ∀ d, d < (M 1 0).toNat → -1 ≤ g d ∧ g d < M 1 1) : ∀ {j : Nat} {g2 g2' : Nat → Int}, chX L j g g2 → chM N (akS N (2 ^ (N 1 0).toNat - 1) 0) j g' g2' → (∀ d, d < 6 → g2 d = g2' d) ∧ (∀ d, d < (M 1 0).toNat → -1 ≤ g2 d ∧ g2 d < M 1 1)
  | 0, g2, g2', h1, h2 => by
    have a : g2 = g := h1
    have b : g2' = g' := h2
    subst a b
    exact ⟨hg, hb⟩
  | j + 1, g2, g2', h1, h2 => by
    obtain ⟨g3, a1, a2⟩ := h1
    obtain ⟨g3', b1, d, p, b2, b3⟩ := h2
    obtain ⟨i1, i2⟩ := tie_chain hT hf hL hg hb a1 b1
    subst b3
    exact tie_step hT hf hL i1 i2 a2 b2
theorem tie_no {M N L : sx_M0} (hT : tw M) (hf : fr1 M N) (hL : ∀ a, L a = ldM M (-1) a) {g g' : Nat → Int} (hg : ∀ d, d < 6 → g d = g' d) (hb : ∀ d, d < (M 1 0).toNat → -1 ≤ g d ∧ g d < M 1 1) : noX L g ↔ noM N (akS N (2 ^ (N 1 0).toNat - 1) 0) g' := by
  have e1 : N 1 = M 1 := hf 1 (by decide) (by decide)
  have eL : L 1 = M 1 := by rw [hL 1, ldM_ne hT (by decide)]
  unfold noX noM
  constructor
  · intro h d p h1 h2 h3
    rw [e1] at h1 h2
    exact h d p (by rw [eL]; exact h1) (by rw [eL]; exact h2) ((tie_ex hT hf hL hg hb h1 h2).mpr h3)
  · intro h d p h1 h2 h3
    rw [eL] at h1 h2
    exact h d p (by rw [e1]; exact h1) (by rw [e1]; exact h2) ((tie_ex hT hf hL hg hb h1 h2).mp h3)
theorem rt_F {M1 N : sx_M0} {ak g' : Nat → Int} (hf : fr1 N M1) (hD : ∀ d, d < (N 1 0).toNat → ak d = N 2 d) (hg : ∀ d, d < 6 → M1 34 d = g' d) (hb : ∀ d, d < (N 1 0).toNat → -1 ≤ M1 34 d ∧ M1 34 d < N 1 1) (h6 : (N 1 0).toNat ≤ 6) : ∀ n, n ≤ (N 1 0).toNat → rtS M1 n = smF N ak g' n
  | 0, _ => rfl
  | n + 1, h => by
    have ih := rt_F hf hD hg hb h6 n (by omega)
    show rtS M1 n + (if 0 ≤ M1 34 n ∧ M1 34 n < M1 1 1 then M1 2 n * M1 (4 + 1 + n) (M1 34 n).toNat else 0) = smF N ak g' n + (if 0 ≤ g' n then ak n * N (4 + 1 + n) (g' n).toNat else 0)
    rw [ih, hf 1 (by decide) (by decide), hf 2 (by decide) (by decide), hf (4 + 1 + n) (by omega) (by omega), ← hg n (by omega), hD n (by omega)]
    have := hb n (by omega)
    by_cases c : 0 ≤ M1 34 n
    · rw [if_pos ⟨c, this.2⟩, if_pos c]
    · rw [if_neg (fun z => c z.1), if_neg c]
theorem stX_hi {L : sx_M0} {g g' : Nat → Int} {d : Nat} (hd : (L 1 0).toNat ≤ d) (h : stepX L g g') : g' d = g d := by
  obtain ⟨e, p, h1, h2⟩ := h
  rw [st_up34] at h2
  subst h2
  have := h1.1
  rw [st34_ne (a := 1) (by decide)] at this
  exact if_neg (by omega)
theorem chX_hi {L : sx_M0} (hT : tw L) {d : Nat} (hd : (L 1 0).toNat ≤ d) : ∀ {j : Nat} {g g' : Nat → Int}, chX L j g g' → g' d = g d
  | 0, g, g', h => by
    have : g' = g := h
    rw [this]
  | j + 1, g, g', h => by
    obtain ⟨g1, h1, h2⟩ := h
    rw [stX_hi hd h2]
    exact chX_hi hT hd h1
theorem rt_bd {M : sx_M0} (hT : tw M) : ∀ {n : Nat}, n ≤ 6 → -150 * (n : Int) ≤ rtS M n ∧ rtS M n ≤ 1500000 * (n : Int)
  | 0, _ => by simp [rtS]
  | n + 1, h => by
    have ih := rt_bd hT (n := n) (by omega)
    have q := rt1_bd hT (d := n) (by omega)
    show _ ≤ rtS M n + rt1 M n ∧ rtS M n + rt1 M n ≤ _
    omega
/-- improve: class and reference -/
theorem tie_improve {M N Mc Mm : sx_M0} {k r r' : Int} (hI : ci M) (hN : N = Mc) (hz : N 53 12 = M 33 0) (hg : M 33 0 = 1 → ∀ d, d < 6 → M 34 d = M 63 d) (hb : M 33 0 = 1 → ∀ d, d < 6 → -1 ≤ M 34 d ∧ M 34 d < M 1 1) (h1 : ipP M Mc k r) (h2 : miP N Mm k r') : r = r' ∧ ((r = -1 ∧ Mc = M ∧ Mm = N) ∨ (M 33 0 = 1 ∧ (∀ a, a < 17 ∨ (35 ≤ a ∧ a < 39) ∨ 53 ≤ a → Mc a = M a) ∧ ci Mc ∧ Mc 33 0 = 1 ∧ (∀ d, d < 6 → Mc 34 d = Mm 63 d) ∧ (∀ d, d < 6 → -1 ≤ Mc 34 d ∧ Mc 34 d < M 1 1) ∧ Mm 53 14 = Mc 33 1 ∧ (∀ a, a ≠ 53 → a ≠ 63 → a ≠ 65 → a ≠ 66 → Mm a = N a) ∧ (∀ b, b ≠ 14 → Mm 53 b = N 53 b))) := by
  have hT := hI.1
  have g0 := hT.1
  have g1 := hT.2.1
  rcases h1 with ⟨a1, a2, a3⟩ | ⟨a1, a2, M1, j, a3, a4, a5, a6, a7⟩
  · rcases h2 with ⟨b1, b2, b3⟩ | ⟨b1, b2, _⟩
    · exact ⟨by omega, Or.inl ⟨a2, a3, b3⟩⟩
    · rw [hz] at b1
      omega
  · rcases h2 with ⟨b1, b2, b3⟩ | ⟨b1, b2, j', b3, b4, b5, b6, b7, b8, b9⟩
    · rw [hz] at b1
      omega
    · have hg1 := hg a1
      have hb1 := hb a1
      have hIL := ci_sc hI (sc_ld hI (-1))
      have fL : ∀ a, a < 17 ∨ (33 ≤ a ∧ a < 39) ∨ 53 ≤ a → ldM M (-1) a = M a := (sc_ld hI (-1)).1
      obtain ⟨xf, sv1, hv1, ch1⟩ := a4
      have fM1 : ∀ a, a < 17 ∨ a = 33 ∨ (35 ≤ a ∧ a < 39) ∨ 53 ≤ a → M1 a = M a := fun a ha => by rw [xf.1 a (by omega) (by omega) (by omega)]; exact fL a (by omega)
      have fMc : ∀ a, a < 17 ∨ (35 ≤ a ∧ a < 39) ∨ 53 ≤ a → Mc a = M a := fun a ha => by rw [a7, sx_up_ne (by omega)]; exact fM1 a (by omega)
      have hf : fr1 M N := fun a h1 h2 => by rw [hN]; exact fMc a (by omega)
      have eN1 : N 1 = M 1 := hf 1 (by decide) (by decide)
      have e34 : ldM M (-1) 34 = M 34 := fL 34 (by omega)
      rw [e34] at ch1
      have e63 : N 63 = M 63 := by rw [hN]; exact fMc 63 (by omega)
      rw [e63] at b4
      have hbD : ∀ d, d < (M 1 0).toNat → -1 ≤ M 34 d ∧ M 34 d < M 1 1 := fun d hd => hb1 d (by omega)
      have j30 := ch_30 hIL.1 ch1
      have ej : j = j' := by
        rcases Nat.lt_trichotomy j j' with t | t | t
        · exfalso
          obtain ⟨m1, c1, d, p, c2⟩ := chM_cut t b4
          obtain ⟨t1, t2⟩ := tie_chain hT hf (fun _ => rfl) hg1 hbD ch1 c1
          rcases a6 with a6 | a6
          · split at a6 <;> omega
          · have := (tie_no hT hf (fun _ => rfl) t1 t2).mp a6
            exact this d p c2.1 c2.2.1 c2.2.2.1
        · exact t
        · exfalso
          obtain ⟨g3, c1, g4, d, p, c2, c3⟩ := chX_cut t ch1
          obtain ⟨t1, t2⟩ := tie_chain hT hf (fun _ => rfl) hg1 hbD c1 b4
          rcases b6 with b6 | b6
          · split at a5 <;> omega
          · have := (tie_no hT hf (fun _ => rfl) t1 t2).mpr b6
            refine this d p ?_ ?_ c2.2.2.1
            · have := c2.1; rw [st34_ne (a := 1) (by decide)] at this; exact this
            · have := c2.2.1; rw [st34_ne (a := 1) (by decide)] at this; exact this
      subst ej
      obtain ⟨t1, t2⟩ := tie_chain hT hf (fun _ => rfl) hg1 hbD ch1 b4
      have e34c : Mc 34 = M1 34 := by rw [a7, sx_up_ne (by decide)]
      have hbig : ∀ d, (M 1 0).toNat ≤ d → d < 6 → M1 34 d = M 34 d := fun d h1 h2 => chX_hi hIL.1 (by rw [fL 1 (by omega)]; exact h1) ch1
      have h34 : ∀ d, d < 6 → -1 ≤ M1 34 d ∧ M1 34 d < M 1 1 := fun d hd => by
        by_cases c : d < (M 1 0).toNat
        · exact t2 d c
        · rw [hbig d (by omega) hd]; exact hb1 d hd
      have f1N : fr1 N M1 := fun a h1 h2 => by rw [fM1 a (by omega), hf a h1 h2]
      have tot : rtS M1 (M1 1 0).toNat = smF N (akS N (2 ^ (N 1 0).toNat - 1) 0) (Mm 63) (N 1 0).toNat := by
        rw [f1N 1 (by decide) (by decide)]
        exact rt_F f1N (fun d hd => ak_all hd) t1 (fun d hd => by rw [eN1] at hd ⊢; exact t2 d hd) (by rw [eN1]; omega) _ (Nat.le_refl _)
      refine ⟨by omega, Or.inr ⟨a1, fMc, ?_, ?_, fun d hd => by rw [e34c]; exact t1 d hd, fun d hd => by rw [e34c]; exact h34 d hd, ?_, b7, b8⟩⟩
      · have rb : -900 ≤ rtS M1 (M1 1 0).toNat ∧ rtS M1 (M1 1 0).toNat ≤ 9000000 := by
          have hT1 : tw M1 := tw_fr (fun a ha => fM1 a (by omega)) hT
          have := rt_bd hT1 (n := (M1 1 0).toNat) (by have := hT1.1; omega)
          have := hT1.1
          omega
        have kc : ∀ a, a ≠ 33 → Mc a = M1 a := fun a ha => by rw [a7, sx_up_ne ha]
        refine ⟨tw_fr (fun a ha => fMc a (by omega)) hT, ?_, ?_, ?_, ?_⟩
        · unfold sv at sv1 ⊢
          rw [kc 17 (by decide), kc 18 (by decide), kc 27 (by decide), kc 29 (by decide)]
          refine ⟨sv1.1, sv1.2.1, sv1.2.2.1, fun d p hd hp => ?_, sv1.2.2.2.2⟩
          rw [kc (20 + 1 + d) (by omega)]
          exact sv1.2.2.2.1 d p hd hp
        · unfold hv at hv1 ⊢
          rw [kc 34 (by decide), kc 35 (by decide), kc 36 (by decide), kc 37 (by decide), kc 38 (by decide), kc 0 (by decide), a7, sx_up_at, sx_up_slot (by decide)]
          exact ⟨hv1.1, hv1.2.1, ⟨by omega, by omega⟩, hv1.2.2.2⟩
        · rw [kc 17 (by decide), xf.2 13 (by decide)]; exact hIL.2.2.2.1
        · rw [kc 19 (by decide), xf.1 19 (by decide) (by decide) (by decide)]; exact hIL.2.2.2.2
      · rw [a7, sx_up_slot (by decide), fM1 33 (by omega)]; exact a1
      · rw [b9, ← tot, a7, sx_up_at]
