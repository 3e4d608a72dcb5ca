/-! MATHEMATICS of the search: completions of a partial plan, their sums, their order; what a step of the search makes of the best so far -/
abbrev mt_J : Type := Nat × Nat × (Nat → Int) × (Nat → Nat → Int) × (Nat → Int) × Nat
/-- g completes the plan from district k on (n districts are left): s are the places opened so far, rl the room left -/
def CP (J : mt_J) : Nat → Nat → Nat → (Nat → Int) → (Nat → Int) → Prop
  | 0, _, _, _, _ => True
  | n + 1, k, s, rl, g => (J.2.2.1 k = 0 ∧ g k = -1 ∧ CP J n (k + 1) s rl g) ∨ (J.2.2.1 k ≠ 0 ∧ ∃ p : Nat, p < J.2.1 ∧ g k = (p : Int) ∧ J.2.2.2.2.2.testBit p = true ∧ J.2.2.2.1 k p ≠ -1 ∧ J.2.2.1 k ≤ rl p ∧ J.2.2.2.2.1 (s ||| 2 ^ p) = 1 ∧ CP J n (k + 1) (s ||| 2 ^ p) (fun q => if q = p then rl q - J.2.2.1 k else rl q) g)
def sm (J : mt_J) : Nat → Nat → (Nat → Int) → Int
  | 0, _, _ => 0
  | n + 1, k, g => (if J.2.2.1 k = 0 then 0 else J.2.2.1 k * J.2.2.2.1 k (g k).toNat) + sm J n (k + 1) g
def lx : Nat → Nat → (Nat → Int) → (Nat → Int) → Prop
  | 0, _, _, _ => True
  | n + 1, k, g, h => g k < h k ∨ (g k = h k ∧ lx n (k + 1) g h)
theorem CP_congr {J : mt_J} : ∀ {n k s : Nat} {rl g h : Nat → Int}, (∀ e, k ≤ e → g e = h e) → CP J n k s rl g → CP J n k s rl h
  | 0, _, _, _, _, _, _, _ => trivial
  | n + 1, k, s, rl, g, h, e, hc => by
    rcases hc with ⟨h1, h2, h3⟩ | ⟨h1, p, hp, h2, h3, h4, h5, h6, h7⟩
    · exact Or.inl ⟨h1, by rw [← e k (Nat.le_refl k)]; exact h2, CP_congr (fun x hx => e x (by omega)) h3⟩
    · exact Or.inr ⟨h1, p, hp, by rw [← e k (Nat.le_refl k)]; exact h2, h3, h4, h5, h6, CP_congr (fun x hx => e x (by omega)) h7⟩
theorem sm_congr {J : mt_J} : ∀ {n k : Nat} {g h : Nat → Int}, (∀ e, k ≤ e → g e = h e) → sm J n k g = sm J n k h
  | 0, _, _, _, _ => rfl
  | n + 1, k, g, h, e => by
    unfold sm
    rw [e k (Nat.le_refl k), sm_congr (fun x hx => e x (by omega))]
theorem lx_congr : ∀ {n k : Nat} {g h g' h' : Nat → Int}, (∀ e, k ≤ e → g e = g' e) → (∀ e, k ≤ e → h e = h' e) → lx n k g h → lx n k g' h'
  | 0, _, _, _, _, _, _, _, _ => trivial
  | n + 1, k, g, h, g', h', e1, e2, hl => by
    unfold lx at hl ⊢
    rw [← e1 k (Nat.le_refl k), ← e2 k (Nat.le_refl k)]
    rcases hl with h1 | ⟨h1, h2⟩
    · exact Or.inl h1
    · exact Or.inr ⟨h1, lx_congr (fun x hx => e1 x (by omega)) (fun x hx => e2 x (by omega)) h2⟩
theorem lx_refl : ∀ (n k : Nat) (g : Nat → Int), lx n k g g
  | 0, _, _ => trivial
  | n + 1, k, g => Or.inr ⟨rfl, lx_refl n (k + 1) g⟩
/-- what a part of the search makes of the best so far: S are the plans that it looks at -/
def Im (f : Int) (S : (Nat → Int) → Prop) (tot : (Nat → Int) → Int) (le : (Nat → Int) → (Nat → Int) → Prop) (ot : (Nat → Int) → Nat → Int) (bs : Int) (bg : Nat → Int) (bs' : Int) (bg' : Nat → Int) : Prop :=
  (bs' = bs ∧ (∀ d, d < 6 → bg' d = bg d) ∧ ∀ g, S g → bs ≠ -1 ∧ (f = 0 → bs ≤ tot g)) ∨
  (∃ g0, S g0 ∧ bs' = tot g0 ∧ (bs = -1 ∨ bs' < bs) ∧ (∀ d, d < 6 → bg' d = ot g0 d) ∧ (f = 0 → ∀ g, S g → bs' ≤ tot g ∧ (bs' = tot g → le g0 g)))
theorem Im_none {f : Int} {S : (Nat → Int) → Prop} {tot : (Nat → Int) → Int} {le : (Nat → Int) → (Nat → Int) → Prop} {ot : (Nat → Int) → Nat → Int} {bs : Int} {bg : Nat → Int} (h : ∀ g, S g → bs ≠ -1 ∧ (f = 0 → bs ≤ tot g)) : Im f S tot le ot bs bg bs bg := Or.inl ⟨rfl, fun _ _ => rfl, h⟩
theorem Im_comp {f : Int} {S1 S2 S : (Nat → Int) → Prop} {tot : (Nat → Int) → Int} {le : (Nat → Int) → (Nat → Int) → Prop} {ot : (Nat → Int) → Nat → Int} {bs b1 b2 : Int} {bg g1 g2 : Nat → Int} (hS : ∀ g, S g ↔ S1 g ∨ S2 g) (ht : ∀ g, S1 g → 0 ≤ tot g) (hle : ∀ g h, S1 g → S2 h → le g h) (h1 : Im f S1 tot le ot bs bg b1 g1) (h2 : Im f S2 tot le ot b1 g1 b2 g2) : Im f S tot le ot bs bg b2 g2 := by
  rcases h1 with ⟨e1, a1, c1⟩ | ⟨g0, s0, e1, d1, a1, c1⟩
  · subst e1
    rcases h2 with ⟨e2, a2, c2⟩ | ⟨h0, t0, e2, d2, a2, c2⟩
    · refine Or.inl ⟨e2, fun d hd => (a2 d hd).trans (a1 d hd), fun g hg => ?_⟩
      rcases (hS g).mp hg with h | h
      · exact c1 g h
      · exact c2 g h
    · refine Or.inr ⟨h0, (hS h0).mpr (Or.inr t0), e2, d2, a2, fun hf g hg => ?_⟩
      rcases (hS g).mp hg with h | h
      · have q := c1 g h
        have q2 := q.2 hf
        rcases d2 with d2 | d2
        · exact absurd d2 q.1
        · exact ⟨by omega, fun z => by omega⟩
      · exact c2 hf g h
  · rcases h2 with ⟨e2, a2, c2⟩ | ⟨h0, t0, e2, d2, a2, c2⟩
    · subst e2
      refine Or.inr ⟨g0, (hS g0).mpr (Or.inl s0), e1, d1, fun d hd => (a2 d hd).trans (a1 d hd), fun hf g hg => ?_⟩
      rcases (hS g).mp hg with h | h
      · exact c1 hf g h
      · exact ⟨(c2 g h).2 hf, fun _ => hle g0 g s0 h⟩
    · have q := ht g0 s0
      rcases d2 with d2 | d2
      · omega
      · refine Or.inr ⟨h0, (hS h0).mpr (Or.inr t0), e2, ?_, a2, fun hf g hg => ?_⟩
        · rcases d1 with d1 | d1
          · exact Or.inl d1
          · exact Or.inr (by omega)
        · rcases (hS g).mp hg with h | h
          · have := (c1 hf g h).1
            exact ⟨by omega, fun z => by omega⟩
          · exact c2 hf g h
/-- the same plans under other names -/
theorem Im_map {f : Int} {S S' : (Nat → Int) → Prop} {tot tot' : (Nat → Int) → Int} {le le' : (Nat → Int) → (Nat → Int) → Prop} {ot ot' : (Nat → Int) → Nat → Int} {bs b1 : Int} {bg g1 : Nat → Int} (to : (Nat → Int) → (Nat → Int)) (h1 : ∀ g, S g → S' (to g) ∧ tot' (to g) = tot g ∧ ∀ d, d < 6 → ot' (to g) d = ot g d) (h2 : ∀ g, S' g → S g ∧ tot' g = tot g) (h3 : ∀ g h, S g → S' h → le g h → le' (to g) h) (h : Im f S tot le ot bs bg b1 g1) : Im f S' tot' le' ot' bs bg b1 g1 := by
  rcases h with ⟨e1, a1, c1⟩ | ⟨g0, s0, e1, d1, a1, c1⟩
  · exact Or.inl ⟨e1, a1, fun g hg => by rw [(h2 g hg).2]; exact c1 g (h2 g hg).1⟩
  · obtain ⟨q1, q2, q3⟩ := h1 g0 s0
    refine Or.inr ⟨to g0, q1, by rw [q2]; exact e1, d1, fun d hd => by rw [q3 d hd]; exact a1 d hd, fun hf g hg => ?_⟩
    rw [(h2 g hg).2]
    exact ⟨(c1 hf g (h2 g hg).1).1, fun z => h3 g0 g s0 hg ((c1 hf g (h2 g hg).1).2 z)⟩
theorem Im_pre {f : Int} {S : (Nat → Int) → Prop} {tot : (Nat → Int) → Int} {le : (Nat → Int) → (Nat → Int) → Prop} {ot : (Nat → Int) → Nat → Int} {bs b1 : Int} {bg bg2 g1 g2 : Nat → Int} (e1 : ∀ d, d < 6 → bg2 d = bg d) (e2 : ∀ d, d < 6 → g2 d = g1 d) (h : Im f S tot le ot bs bg b1 g1) : Im f S tot le ot bs bg2 b1 g2 := by
  rcases h with ⟨a1, a2, a3⟩ | ⟨g0, s0, a1, a2, a3, a4⟩
  · exact Or.inl ⟨a1, fun d hd => by rw [e2 d hd, e1 d hd]; exact a2 d hd, a3⟩
  · exact Or.inr ⟨g0, s0, a1, a2, fun d hd => by rw [e2 d hd]; exact a3 d hd, a4⟩
