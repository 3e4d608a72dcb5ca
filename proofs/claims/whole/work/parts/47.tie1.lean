/-! THE TIE, 1: the class's search and the reference's speak of the same plans -/
theorem nb_sub {M : sx_M0} {s t p : Nat} : ∀ {n : Nat}, n ≤ 5 → (∀ q, q < 5 → t.testBit q = true → s.testBit q = true) → nbS M s p n → nbS M t p n
  | 0, _, _, _ => trivial
  | n + 1, h, hs, hn => ⟨nb_sub (by omega) hs hn.1, fun z => hn.2 ⟨hs n (by omega) z.1, z.2⟩⟩
theorem cs_sub {M : sx_M0} (hT : tw M) {f : Int} {s t : Nat} (hs : ∀ q, q < 5 → t.testBit q = true → s.testBit q = true) : ∀ {n : Nat}, n ≤ 5 → csS M f t n ≤ csS M f s n
  | 0, _ => Int.le_refl 0
  | n + 1, h => by
    have ih := cs_sub hT (f := f) hs (n := n) (by omega)
    have q := hT.2.2.2.2.2.2.2.2.1 n (by omega)
    have q2 : 0 ≤ coS M f n := by
      unfold coS
      split <;> omega
    show csS M f t n + (if t.testBit n = true then coS M f n else 0) ≤ csS M f s n + (if s.testBit n = true then coS M f n else 0)
    by_cases e : t.testBit n = true
    · rw [if_pos e, if_pos (hs n (by omega) e)]
      omega
    · rw [if_neg e]
      split <;> omega
theorem mo_sub {M : sx_M0} (hT : tw M) {f : Int} {s t : Nat} (hs : ∀ q, q < 5 → t.testBit q = true → s.testBit q = true) (h : moS M f s 5) : moS M f t 5 := by
  rw [mo_iff hT (by omega)] at h ⊢
  refine ⟨fun p hp hb => ?_, by have := cs_sub hT (f := f) hs (n := 5) (by omega); omega⟩
  have q := h.1 p hp (hs p hp hb)
  exact ⟨q.1, nb_sub (by omega) hs q.2⟩
theorem ps_step {g : Nat → Int} {n q : Nat} (h : (psF g n).testBit q = true) : (psF g (n + 1)).testBit q = true := by
  show (if 0 ≤ g n then psF g n ||| 2 ^ (g n).toNat else psF g n).testBit q = true
  split
  · rw [Nat.testBit_or, h, Bool.true_or]
  · exact h
theorem ps_mono {g : Nat → Int} {q k : Nat} : ∀ {n : Nat}, k ≤ n → (psF g k).testBit q = true → (psF g n).testBit q = true
  | 0, h, hb => by
    have : k = 0 := by omega
    subst this
    exact hb
  | n + 1, h, hb => by
    by_cases e : k = n + 1
    · subst e; exact hb
    · exact ps_step (ps_mono (by omega) hb)
theorem ps_bit {g : Nat → Int} {d n : Nat} (hd : d < n) (h : 0 ≤ g d) : (psF g n).testBit (g d).toNat = true := by
  refine ps_mono (k := d + 1) (by omega) ?_
  show (if 0 ≤ g d then psF g d ||| 2 ^ (g d).toNat else psF g d).testBit (g d).toNat = true
  rw [if_pos h, Nat.testBit_or, Nat.testBit_two_pow_self, Bool.or_true]
theorem ps_conv {g : Nat → Int} {q : Nat} : ∀ {n : Nat}, (psF g n).testBit q = true → ∃ d, d < n ∧ g d = (q : Int)
  | 0, h => by
    have : (0 : Nat).testBit q = true := h
    rw [Nat.zero_testBit] at this
    cases this
  | n + 1, h => by
    have h2 : (if 0 ≤ g n then psF g n ||| 2 ^ (g n).toNat else psF g n).testBit q = true := h
    by_cases e : 0 ≤ g n
    · rw [if_pos e, Nat.testBit_or, Bool.or_eq_true] at h2
      rcases h2 with y | y
      · obtain ⟨d, y1, y2⟩ := ps_conv y
        exact ⟨d, by omega, y2⟩
      · have z : (g n).toNat = q := by
          rw [Nat.testBit_two_pow] at y
          exact of_decide_eq_true y
        exact ⟨n, Nat.lt_succ_self n, by omega⟩
    · rw [if_neg e] at h2
      obtain ⟨d, y1, y2⟩ := ps_conv h2
      exact ⟨d, by omega, y2⟩
theorem ld_mono {nd g : Nat → Int} {p k : Nat} : ∀ {n : Nat}, (∀ d, d < n → 0 ≤ nd d) → k ≤ n → ldF nd g p k ≤ ldF nd g p n
  | 0, _, h => by
    have : k = 0 := by omega
    subst this
    exact Int.le_refl _
  | n + 1, hn, h => by
    by_cases e : k = n + 1
    · subst e; exact Int.le_refl _
    · have ih := ld_mono (g := g) (p := p) (k := k) (n := n) (fun d hd => hn d (by omega)) (by omega)
      have q := hn n (by omega)
      show _ ≤ ldF nd g p n + (if g n = (p : Int) then nd n else 0)
      split <;> omega
def jok (J : mt_J) (M : sx_M0) (nd : Nat → Int) (f : Int) (W : Nat) (rl : Nat → Int) : Prop := J.1 = (M 1 0).toNat ∧ J.2.1 = (M 1 1).toNat ∧ (∀ d, d < (M 1 0).toNat → J.2.2.1 d = nd d ∧ 0 ≤ nd d) ∧ (∀ d p, d < (M 1 0).toNat → p < (M 1 1).toNat → J.2.2.2.1 d p = rcS M d p) ∧ (∀ s, s < 2 ^ (M 1 1).toNat → J.2.2.2.2.1 s = b01 (moS M f s 5)) ∧ J.2.2.2.2.2 = W ∧ (∀ p, p < (M 1 1).toNat → 0 ≤ rl p ∧ ((p : Int) ≠ f → rl p = M 14 p) ∧ ((p : Int) = f → ∀ g, ldF nd g p (M 1 0).toNat ≤ rl p))
def lcP (M : sx_M0) (nd g : Nat → Int) (W d : Nat) : Prop := (nd d = 0 ∧ g d = -1) ∨ (nd d ≠ 0 ∧ ∃ p : Nat, p < (M 1 1).toNat ∧ g d = (p : Int) ∧ W.testBit p = true ∧ rcS M d p ≠ -1)
theorem ps_no {g : Nat → Int} {k : Nat} (h : g k = -1) : psF g (k + 1) = psF g k := if_neg (by omega)
theorem ps_yes {g : Nat → Int} {k p : Nat} (h : g k = (p : Int)) : psF g (k + 1) = psF g k ||| 2 ^ p := by
  show (if 0 ≤ g k then psF g k ||| 2 ^ (g k).toNat else psF g k) = _
  rw [if_pos (by omega), h]
  rfl
theorem ld_no {nd g : Nat → Int} {k p : Nat} (h : g k = -1) : ldF nd g p (k + 1) = ldF nd g p k := by
  show ldF nd g p k + (if g k = (p : Int) then nd k else 0) = _
  rw [if_neg (by omega), Int.add_zero]
theorem rl_yes2 {nd g rl : Nat → Int} {k p : Nat} (h : g k = (p : Int)) : (fun q => if q = p then (rl q - ldF nd g q k) - nd k else rl q - ldF nd g q k) = (fun q => rl q - ldF nd g q (k + 1)) := by
  funext q
  show _ = rl q - (ldF nd g q k + (if g k = (q : Int) then nd k else 0))
  by_cases e : q = p
  · rw [if_pos e, if_pos (by omega)]
    omega
  · rw [if_neg e, if_neg (by omega)]
    omega
theorem or_P {P s p : Nat} (hs : s < 2 ^ P) (hp : p < P) : s ||| 2 ^ p < 2 ^ P := Nat.or_lt_two_pow hs (Nat.pow_lt_pow_right (by decide) hp)
theorem cp_pre {J : mt_J} {M : sx_M0} {nd rl : Nat → Int} {f : Int} {W : Nat} (hT : tw M) (hJ : jok J M nd f W rl) {g : Nat → Int} : ∀ (n k : Nat), k + n = (M 1 0).toNat → (∀ p, p < (M 1 1).toNat → ldF nd g p k ≤ rl p) → moS M f (psF g k) 5 → psF g k < 2 ^ (M 1 1).toNat → (CP J n k (psF g k) (fun q => rl q - ldF nd g q k) g ↔ (∀ d, k ≤ d → d < (M 1 0).toNat → lcP M nd g W d) ∧ (∀ p, p < (M 1 1).toNat → ldF nd g p (M 1 0).toNat ≤ rl p) ∧ moS M f (psF g (M 1 0).toNat) 5)
  | 0, k, e, hl, hm, hb => by
    have e2 : k = (M 1 0).toNat := by omega
    subst e2
    exact ⟨fun _ => ⟨fun d h1 h2 => by omega, hl, hm⟩, fun _ => trivial⟩
  | n + 1, k, e, hl, hm, hb => by
    obtain ⟨j1, j2, j3, j4, j5, j6, j7⟩ := hJ
    have hJ : jok J M nd f W rl := ⟨j1, j2, j3, j4, j5, j6, j7⟩
    have jk := j3 k (by omega)
    constructor
    · intro h
      rcases h with ⟨h1, h2, h3⟩ | ⟨h1, p, hp, h2, h3, h4, h5, h6, h7⟩
      · have ih := cp_pre hT hJ (g := g) n (k + 1) (by omega) (fun q hq => by rw [ld_no h2]; exact hl q hq) (by rw [ps_no h2]; exact hm) (by rw [ps_no h2]; exact hb)
        rw [ps_no h2, show (fun q => rl q - ldF nd g q (k + 1)) = (fun q => rl q - ldF nd g q k) from funext fun q => by rw [ld_no h2]] at ih
        have r := ih.mp h3
        refine ⟨fun d q1 q2 => ?_, r.2⟩
        by_cases ed : d = k
        · subst ed
          exact Or.inl ⟨by omega, h2⟩
        · exact r.1 d (by omega) q2
      · rw [j2] at hp
        have hlk : ∀ q, q < (M 1 1).toNat → ldF nd g q (k + 1) ≤ rl q := fun q hq => by
          show ldF nd g q k + (if g k = (q : Int) then nd k else 0) ≤ rl q
          by_cases eq : q = p
          · rw [eq, if_pos h2]
            have h5' : J.2.2.1 k ≤ rl p - ldF nd g p k := h5
            omega
          · rw [if_neg (by omega)]
            have := hl q hq
            omega
        have hmk : moS M f (psF g k ||| 2 ^ p) 5 := by
          rw [j5 _ (or_P hb hp)] at h6
          exact b01_1.mp h6
        have ih := cp_pre hT hJ (g := g) n (k + 1) (by omega) hlk (by rw [ps_yes h2]; exact hmk) (by rw [ps_yes h2]; exact or_P hb hp)
        rw [ps_yes h2, ← rl_yes2 h2] at ih
        have r := ih.mp (by rw [jk.1] at h7; exact h7)
        refine ⟨fun d q1 q2 => ?_, r.2⟩
        by_cases ed : d = k
        · subst ed
          exact Or.inr ⟨by omega, p, hp, h2, by rw [← j6]; exact h3, by rw [← j4 d p q2 hp]; exact h4⟩
        · exact r.1 d (by omega) q2
    · rintro ⟨h1, h2, h3⟩
      rcases h1 k (Nat.le_refl k) (by omega) with ⟨y1, y2⟩ | ⟨y1, p, y2, y3, y4, y5⟩
      · have ih := cp_pre hT hJ (g := g) n (k + 1) (by omega) (fun q hq => by rw [ld_no y2]; exact hl q hq) (by rw [ps_no y2]; exact hm) (by rw [ps_no y2]; exact hb)
        rw [ps_no y2, show (fun q => rl q - ldF nd g q (k + 1)) = (fun q => rl q - ldF nd g q k) from funext fun q => by rw [ld_no y2]] at ih
        exact Or.inl ⟨by omega, y2, ih.mpr ⟨fun d q1 q2 => h1 d (by omega) q2, h2, h3⟩⟩
      · have hsub : moS M f (psF g (k + 1)) 5 := mo_sub hT (fun q _ hq => ps_mono (by omega) hq) h3
        have hlk : ∀ q, q < (M 1 1).toNat → ldF nd g q (k + 1) ≤ rl q := fun q hq => Int.le_trans (ld_mono (fun d hd => (j3 d hd).2) (by omega)) (h2 q hq)
        have ih := cp_pre hT hJ (g := g) n (k + 1) (by omega) hlk hsub (by rw [ps_yes y3]; exact or_P hb y2)
        rw [ps_yes y3, ← rl_yes2 y3] at ih
        rw [ps_yes y3] at hsub
        have hp := hlk p y2
        rw [show ldF nd g p (k + 1) = ldF nd g p k + (if g k = (p : Int) then nd k else 0) from rfl, if_pos y3] at hp
        refine Or.inr ⟨by omega, p, by rw [j2]; exact y2, y3, by rw [j6]; exact y4, by rw [j4 k p (by omega) y2]; exact y5, by show J.2.2.1 k ≤ rl p - ldF nd g p k; omega, by rw [j5 _ (or_P hb y2)]; exact b01_t hsub, ?_⟩
        rw [jk.1]
        exact ih.mpr ⟨fun d q1 q2 => h1 d (by omega) q2, h2, h3⟩
theorem pl_pre {J : mt_J} {M : sx_M0} {nd rl : Nat → Int} {f : Int} {W : Nat} (hT : tw M) (hJ : jok J M nd f W rl) {g : Nat → Int} : ∀ (n k : Nat), k + n = (M 1 0).toNat → (∀ p, p < (M 1 1).toNat → ldF nd g p k ≤ rl p) → psF g k < 2 ^ (M 1 1).toNat → (PL J n k (psF g k) (fun q => rl q - ldF nd g q k) g ↔ (∀ d, k ≤ d → d < (M 1 0).toNat → lcP M nd g W d) ∧ (∀ p, p < (M 1 1).toNat → ldF nd g p (M 1 0).toNat ≤ rl p) ∧ moS M f (psF g (M 1 0).toNat) 5)
  | 0, k, e, hl, hb => by
    have e2 : k = (M 1 0).toNat := by omega
    subst e2
    refine ⟨fun h => ⟨fun d h1 h2 => by omega, hl, ?_⟩, fun h => ?_⟩
    · have h' : J.2.2.2.2.1 (psF g (M 1 0).toNat) = 1 := h
      rw [hJ.2.2.2.2.1 _ hb] at h'
      exact b01_1.mp h'
    · show J.2.2.2.2.1 (psF g (M 1 0).toNat) = 1
      rw [hJ.2.2.2.2.1 _ hb]
      exact b01_t h.2.2
  | n + 1, k, e, hl, hb => by
    obtain ⟨j1, j2, j3, j4, j5, j6, j7⟩ := hJ
    have hJ : jok J M nd f W rl := ⟨j1, j2, j3, j4, j5, j6, j7⟩
    have jk := j3 k (by omega)
    constructor
    · intro h
      rcases h with ⟨h1, h2, h3⟩ | ⟨h1, p, hp, h2, h3, h4, h5, h7⟩
      · have ih := pl_pre hT hJ (g := g) n (k + 1) (by omega) (fun q hq => by rw [ld_no h2]; exact hl q hq) (by rw [ps_no h2]; exact hb)
        rw [ps_no h2, show (fun q => rl q - ldF nd g q (k + 1)) = (fun q => rl q - ldF nd g q k) from funext fun q => by rw [ld_no h2]] at ih
        have r := ih.mp h3
        refine ⟨fun d q1 q2 => ?_, r.2⟩
        by_cases ed : d = k
        · subst ed
          exact Or.inl ⟨by omega, h2⟩
        · exact r.1 d (by omega) q2
      · rw [j2] at hp
        have hlk : ∀ q, q < (M 1 1).toNat → ldF nd g q (k + 1) ≤ rl q := fun q hq => by
          show ldF nd g q k + (if g k = (q : Int) then nd k else 0) ≤ rl q
          by_cases eq : q = p
          · rw [eq, if_pos h2]
            have h5' : J.2.2.1 k ≤ rl p - ldF nd g p k := h5
            omega
          · rw [if_neg (by omega)]
            have := hl q hq
            omega
        have ih := pl_pre hT hJ (g := g) n (k + 1) (by omega) hlk (by rw [ps_yes h2]; exact or_P hb hp)
        rw [ps_yes h2, ← rl_yes2 h2] at ih
        have r := ih.mp (by rw [jk.1] at h7; exact h7)
        refine ⟨fun d q1 q2 => ?_, r.2⟩
        by_cases ed : d = k
        · subst ed
          exact Or.inr ⟨by omega, p, hp, h2, by rw [← j6]; exact h3, by rw [← j4 d p q2 hp]; exact h4⟩
        · exact r.1 d (by omega) q2
    · rintro ⟨h1, h2, h3⟩
      rcases h1 k (Nat.le_refl k) (by omega) with ⟨y1, y2⟩ | ⟨y1, p, y2, y3, y4, y5⟩
      · have ih := pl_pre hT hJ (g := g) n (k + 1) (by omega) (fun q hq => by rw [ld_no y2]; exact hl q hq) (by rw [ps_no y2]; exact hb)
        rw [ps_no y2, show (fun q => rl q - ldF nd g q (k + 1)) = (fun q => rl q - ldF nd g q k) from funext fun q => by rw [ld_no y2]] at ih
        exact Or.inl ⟨by omega, y2, ih.mpr ⟨fun d q1 q2 => h1 d (by omega) q2, h2, h3⟩⟩
      · have hlk : ∀ q, q < (M 1 1).toNat → ldF nd g q (k + 1) ≤ rl q := fun q hq => Int.le_trans (ld_mono (fun d hd => (j3 d hd).2) (by omega)) (h2 q hq)
        have ih := pl_pre hT hJ (g := g) n (k + 1) (by omega) hlk (by rw [ps_yes y3]; exact or_P hb y2)
        rw [ps_yes y3, ← rl_yes2 y3] at ih
        have hp := hlk p y2
        rw [show ldF nd g p (k + 1) = ldF nd g p k + (if g k = (p : Int) then nd k else 0) from rfl, if_pos y3] at hp
        refine Or.inr ⟨by omega, p, by rw [j2]; exact y2, y3, by rw [j6]; exact y4, by rw [j4 k p (by omega) y2]; exact y5, by show J.2.2.1 k ≤ rl p - ldF nd g p k; omega, ?_⟩
        rw [jk.1]
        exact ih.mpr ⟨fun d q1 q2 => h1 d (by omega) q2, h2, h3⟩
/-- the three conditions, and the reference's plan -/
theorem lc_FP {M : sx_M0} (hT : tw M) {J : mt_J} {nd rl g : Nat → Int} {f : Int} {W : Nat} (hJ : jok J M nd f W rl) : ((∀ d, 0 ≤ d → d < (M 1 0).toNat → lcP M nd g W d) ∧ (∀ p, p < (M 1 1).toNat → ldF nd g p (M 1 0).toNat ≤ rl p) ∧ moS M f (psF g (M 1 0).toNat) 5) ↔ ((∀ d, d < (M 1 0).toNat → -1 ≤ g d ∧ g d < M 1 1) ∧ FP M nd g f ∧ (∀ d, d < (M 1 0).toNat → 0 ≤ g d → W.testBit (g d).toNat = true)) := by
  have g1 := hT.2.1
  have g0 := hT.1
  obtain ⟨j1, j2, j3, j4, j5, j6, j7⟩ := hJ
  constructor
  · rintro ⟨h1, h2, h3⟩
    refine ⟨fun d hd => ?_, ⟨fun d hd => ?_, fun p hp => ⟨fun d hd e => ?_, fun hpf => ?_⟩, h3⟩, fun d hd h0 => ?_⟩
    · rcases h1 d (Nat.zero_le d) hd with ⟨y1, y2⟩ | ⟨y1, p, y2, y3, y4, y5⟩ <;> omega
    · have := (j3 d hd).2
      rcases h1 d (Nat.zero_le d) hd with ⟨y1, y2⟩ | ⟨y1, p, y2, y3, y4, y5⟩ <;> omega
    · rcases h1 d (Nat.zero_le d) hd with ⟨y1, y2⟩ | ⟨y1, q, y2, y3, y4, y5⟩
      · omega
      · have eq : q = p := by omega
        subst eq
        unfold cgS
        by_cases c : cgS M d q
        · exact c
        · exact absurd (rc_no (Or.inr c)) y5
    · rw [← (j7 p hp).2.1 hpf]; exact h2 p hp
    · rcases h1 d (Nat.zero_le d) hd with ⟨y1, y2⟩ | ⟨y1, p, y2, y3, y4, y5⟩
      · omega
      · rw [y3]; exact y4
  · rintro ⟨h1, h2, h3⟩
    refine ⟨fun d _ hd => ?_, fun p hp => ?_, h2.2.2⟩
    · have q := h2.1 d hd
      have b := h1 d hd
      have n := (j3 d hd).2
      by_cases e : 0 < nd d
      · have gd := q.mp e
        have hm := (mo_iff hT (by omega)).mp h2.2.2
        have hbit := ps_bit hd gd
        have b0 := (hm.1 (g d).toNat (by omega) hbit).1
        have cg := (h2.2.1 (g d).toNat (by omega)).1 d hd (by omega)
        exact Or.inr ⟨by omega, (g d).toNat, by omega, by omega, h3 d hd gd, (rc_yes (by omega) (by omega) b0 cg).2⟩
      · have gd : ¬ 0 ≤ g d := fun z => e (q.mpr z)
        exact Or.inl ⟨by omega, by omega⟩
    · by_cases e : (p : Int) = f
      · exact (j7 p hp).2.2 e g
      · rw [(j7 p hp).2.1 e]; exact (h2.2.1 p hp).2 e
theorem rl0 {nd g rl : Nat → Int} : (fun q => rl q - ldF nd g q 0) = rl := funext fun q => by show rl q - 0 = rl q; omega
theorem mo_0 {M : sx_M0} (hT : tw M) {f : Int} : moS M f 0 5 := by
  rw [mo_iff hT (by omega)]
  refine ⟨fun p _ hb => absurd hb (by rw [Nat.zero_testBit]; exact Bool.false_ne_true), ?_⟩
  have e : ∀ n, csS M f 0 n = 0 := fun n => by
    induction n with
    | zero => rfl
    | succ n ih =>
      show csS M f 0 n + (if (0 : Nat).testBit n = true then coS M f n else 0) = 0
      rw [ih, Nat.zero_testBit]
      rfl
  rw [e]
  exact hT.2.2.1.1
theorem CP_FP {M : sx_M0} (hT : tw M) {J : mt_J} {nd rl g : Nat → Int} {f : Int} {W : Nat} (hJ : jok J M nd f W rl) : CP J J.1 0 0 rl g ↔ ((∀ d, d < (M 1 0).toNat → -1 ≤ g d ∧ g d < M 1 1) ∧ FP M nd g f ∧ (∀ d, d < (M 1 0).toNat → 0 ≤ g d → W.testBit (g d).toNat = true)) := by
  rw [← lc_FP hT hJ, hJ.1]
  have h := cp_pre hT hJ (g := g) (M 1 0).toNat 0 (by omega) (fun p hp => (hJ.2.2.2.2.2.2 p hp).1) (mo_0 hT) (Nat.two_pow_pos _)
  rw [rl0] at h
  exact h
theorem PL_FP {M : sx_M0} (hT : tw M) {J : mt_J} {nd rl g : Nat → Int} {f : Int} {W : Nat} (hJ : jok J M nd f W rl) : PL J (M 1 0).toNat 0 0 rl g ↔ ((∀ d, d < (M 1 0).toNat → -1 ≤ g d ∧ g d < M 1 1) ∧ FP M nd g f ∧ (∀ d, d < (M 1 0).toNat → 0 ≤ g d → W.testBit (g d).toNat = true)) := by
  rw [← lc_FP hT hJ]
  have h := pl_pre hT hJ (g := g) (M 1 0).toNat 0 (by omega) (fun p hp => (hJ.2.2.2.2.2.2 p hp).1) (Nat.two_pow_pos _)
  rw [rl0] at h
  exact h
theorem sm_F {M : sx_M0} {J : mt_J} {nd rl g : Nat → Int} {f : Int} {W : Nat} (hJ : jok J M nd f W rl) (hl : ∀ d, d < (M 1 0).toNat → lcP M nd g W d) : ∀ (n k : Nat), k + n = (M 1 0).toNat → smF M nd g k + sm J n k g = smF M nd g (M 1 0).toNat
  | 0, k, e => by
    have e2 : k = (M 1 0).toNat := by omega
    subst e2
    exact Int.add_zero _
  | n + 1, k, e => by
    have ih := sm_F hJ hl n (k + 1) (by omega)
    have jk := (hJ.2.2.1 k (by omega)).1
    show smF M nd g k + ((if J.2.2.1 k = 0 then 0 else J.2.2.1 k * J.2.2.2.1 k (g k).toNat) + sm J n (k + 1) g) = _
    rw [← ih]
    show _ = smF M nd g k + (if 0 ≤ g k then nd k * M (4 + 1 + k) (g k).toNat else 0) + sm J n (k + 1) g
    rcases hl k (by omega) with ⟨y1, y2⟩ | ⟨y1, p, y2, y3, y4, y5⟩
    · rw [if_pos (by omega), if_neg (by omega)]
      omega
    · have e3 : (g k).toNat = p := by omega
      rw [if_neg (by omega), if_pos (by omega), jk, e3, hJ.2.2.2.1 k p (by omega) y2]
      have e4 : rcS M k p = M (4 + 1 + k) p := by
        by_cases c : M 16 p = 0 ∧ cgS M k p
        · unfold rcS at y5 ⊢
          by_cases z : ((k : Int) < M 1 0 ∧ (p : Int) < M 1 1 ∧ M 16 p = 0 ∧ M (4 + 1 + k) p ≠ -1 ∧ M (4 + 1 + k) p ≤ M 3 k)
          · rw [if_pos z]
          · rw [if_neg z] at y5
            exact absurd rfl y5
        · exact absurd (rc_no (by
            by_cases z : M 16 p = 0
            · exact Or.inr (fun w => c ⟨z, w⟩)
            · exact Or.inl z)) y5
      rw [e4]
      omega
theorem CP_sm {M : sx_M0} (hT : tw M) {J : mt_J} {nd rl g : Nat → Int} {f : Int} {W : Nat} (hJ : jok J M nd f W rl) (h : CP J J.1 0 0 rl g) : sm J J.1 0 g = smF M nd g (M 1 0).toNat := by
  have h2 := (lc_FP hT hJ).mpr ((CP_FP hT hJ).mp h)
  have := sm_F hJ (fun d hd => h2.1 d (Nat.zero_le d) hd) (M 1 0).toNat 0 (by omega)
  rw [hJ.1]
  have e : smF M nd g 0 = 0 := rfl
  omega
theorem lx_anti : ∀ {n k : Nat} {g h : Nat → Int}, lx n k g h → lx n k h g → ∀ d, k ≤ d → d < k + n → g d = h d
  | 0, k, g, h, _, _, d, h1, h2 => by omega
  | n + 1, k, g, h, h3, h4, d, h1, h2 => by
    rcases h3 with y | ⟨y, y2⟩
    · rcases h4 with z | ⟨z, z2⟩ <;> omega
    · rcases h4 with z | ⟨z, z2⟩
      · omega
      · by_cases e : d = k
        · subst e; exact y
        · exact lx_anti y2 z2 d (by omega) (by omega)
/-- a row of six out of a plan -/
def cut6 (n : Nat) (g : Nat → Int) : Nat → Int := fun d => if d < n then g d else -1
theorem pn_cut {M : sx_M0} (hT : tw M) {nd g : Nat → Int} {f : Int} (h1 : ∀ d, d < (M 1 0).toNat → -1 ≤ g d ∧ g d < M 1 1) (h2 : FP M nd g f) : PN M nd f (cut6 (M 1 0).toNat g) := by
  have g0 := hT.1
  have e : ∀ d, d < (M 1 0).toNat → cut6 (M 1 0).toNat g d = g d := fun d hd => if_pos hd
  refine ⟨fun d hd => by rw [e d hd]; exact h1 d hd, fun d hd _ => if_neg (by omega), ?_⟩
  exact (FP_congr (by omega) (fun _ _ => rfl) e (fun _ _ => rfl)).mpr h2
theorem tie_best {M : sx_M0} (hT : tw M) {J : mt_J} {nd rl bg b : Nat → Int} {f r x : Int} (hJ : jok J M nd f 31 rl) (h1 : bstP J rl 0 r bg) (h2 : bsR M nd f 0 x (fun _ => True) b) : r = x ∧ (r ≠ -1 → ∀ d, d < 6 → bg d = b d) := by
  have g0 := hT.1
  have g1 := hT.2.1
  have w31 : ∀ p, p < 5 → (31 : Nat).testBit p = true := by decide
  have toCP : ∀ g, PN M nd f g → CP J J.1 0 0 rl g := fun g hg => (CP_FP hT hJ).mpr ⟨hg.1, hg.2.2, fun d hd h0 => w31 _ (by have := (hg.1 d hd).2; omega)⟩
  have toPN : ∀ g, CP J J.1 0 0 rl g → PN M nd f (cut6 (M 1 0).toNat g) := fun g hg => by
    have := (CP_FP hT hJ).mp hg
    exact pn_cut hT this.1 this.2.1
  have es : ∀ g, smF M nd (cut6 (M 1 0).toNat g) (M 1 0).toNat = smF M nd g (M 1 0).toNat := fun g => smF_congr (by omega) (fun _ _ => rfl) (fun d hd => if_pos hd) (fun _ _ => rfl)
  rcases h1 with ⟨a1, a2⟩ | ⟨ga, a1, a2, a3, a4, a5⟩
  · rcases h2 with ⟨b1, b2⟩ | ⟨gb, b1, b2, b3, b4, b5, b6⟩
    · exact ⟨by omega, fun y => absurd a1 y⟩
    · exact absurd (toCP gb b1) (a2 gb)
  · rcases h2 with ⟨b1, b2⟩ | ⟨gb, b1, b2, b3, b4, b5, b6⟩
    · exact absurd trivial (b2 _ (toPN ga a1))
    · have sa := CP_sm hT hJ a1
      have sb := CP_sm hT hJ (toCP gb b1)
      have p1 := a5 rfl gb (toCP gb b1)
      have p2 := b6 rfl _ (toPN ga a1) trivial
      rw [es] at p2
      have er : r = x := by omega
      refine ⟨er, fun _ d hd => ?_⟩
      have l1 := p1.2 (by omega)
      have l2 := p2.2 (by omega)
      rw [hJ.1] at l1
      have l3 : lx (M 1 0).toNat 0 gb ga := lx_congr' (fun _ _ _ => rfl) (fun e _ he => if_pos (by omega)) l2
      rw [a4 d hd, b5 d hd, hJ.1]
      by_cases e : d < (M 1 0).toNat
      · rw [if_pos e]; exact lx_anti l1 l3 d (Nat.zero_le d) (by omega)
      · rw [if_neg e, b1.2.1 d (by omega) hd]
