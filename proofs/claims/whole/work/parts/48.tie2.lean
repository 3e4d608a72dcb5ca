/-! THE TIE, 2: frames of the town; the loaded problem is the town's -/
abbrev fr1 (M N : sx_M0) : Prop := ∀ a, 1 ≤ a → a ≤ 16 → N a = M a
theorem rc_f1 {M N : sx_M0} (h : fr1 M N) {d p : Nat} (hd : d < 6) : rcS N d p = rcS M d p := by
  unfold rcS
  rw [h 1 (by decide) (by decide), h 16 (by decide) (by decide), h (4 + 1 + d) (by omega) (by omega), h 3 (by decide) (by decide)]
theorem nr_f1 {M N : sx_M0} (h : fr1 M N) {p q : Nat} : nrS N p q ↔ nrS M p q := by
  unfold nrS
  rw [h 11 (by decide) (by decide), h 12 (by decide) (by decide), h 15 (by decide) (by decide)]
theorem nb_f1 {M N : sx_M0} (h : fr1 M N) {s p : Nat} : ∀ {n : Nat}, nbS N s p n ↔ nbS M s p n
  | 0 => Iff.rfl
  | n + 1 => by
    show (nbS N s p n ∧ ¬ (s.testBit n = true ∧ nrS N n p)) ↔ (nbS M s p n ∧ ¬ (s.testBit n = true ∧ nrS M n p))
    rw [nb_f1 h, nr_f1 h]
theorem mo_f1 {M N : sx_M0} (h : fr1 M N) {f : Int} {s : Nat} : ∀ {n : Nat}, moS N f s n ↔ moS M f s n
  | 0 => Iff.rfl
  | n + 1 => by
    show (moS N f s n ∧ (s.testBit n = true → N 16 n = 0 ∧ csS N f s (n + 1) ≤ N 1 2 ∧ nbS N s n n)) ↔ (moS M f s n ∧ (s.testBit n = true → M 16 n = 0 ∧ csS M f s (n + 1) ≤ M 1 2 ∧ nbS M s n n))
    rw [mo_f1 h, nb_f1 h, cs_fr (h 13 (by decide) (by decide)), h 16 (by decide) (by decide), h 1 (by decide) (by decide)]
theorem wy_f1 {M N : sx_M0} (h : fr1 M N) : ∀ n, n ≤ 6 → wyS N n = wyS M n
  | 0, _ => rfl
  | n + 1, hn => by
    have ih := wy_f1 h n (by omega)
    have ec : ∀ k, crS N n k = crS M n k := fun k => by
      induction k with
      | zero => rfl
      | succ k ik =>
        show crS N n k + (if rcS N n k = -1 then 0 else 1) = crS M n k + (if rcS M n k = -1 then 0 else 1)
        rw [ik, rc_f1 h (by omega)]
    show (if 0 < N 2 n then wyS N n * crS N n (N 1 1).toNat else wyS N n) = (if 0 < M 2 n then wyS M n * crS M n (M 1 1).toNat else wyS M n)
    rw [ih, ec, h 1 (by decide) (by decide), h 2 (by decide) (by decide)]
theorem ld_100 {nd g : Nat → Int} {p : Nat} : ∀ {n : Nat}, (∀ d, d < n → 0 ≤ nd d ∧ nd d ≤ 100) → ldF nd g p n ≤ 100 * (n : Int)
  | 0, _ => Int.le_refl 0
  | n + 1, h => by
    have ih := ld_100 (g := g) (p := p) (n := n) (fun d hd => h d (by omega))
    have q := h n (by omega)
    show ldF nd g p n + (if g n = (p : Int) then nd n else 0) ≤ _
    split <;> omega
/-- the problem in the search's cells is the town's, with needs nd -/
theorem jok_gen {M N Q : sx_M0} (hT : tw M) (hf : fr1 M N) {f : Int} {W : Nat} {nd : Nat → Int} (q0 : Q 17 0 = M 1 0) (q1 : Q 17 1 = M 1 1) (qn : ∀ d, d < (M 1 0).toNat → Q 18 d = nd d ∧ 0 ≤ nd d) (qr : ∀ d p, d < (M 1 0).toNat → p < (M 1 1).toNat → Q (20 + 1 + d) p = rcS M d p) (qm : ∀ s, s < 2 ^ (M 1 1).toNat → Q 27 s = b01 (moS M f s 5)) (ql : ∀ p, p < (M 1 1).toNat → Q 19 p = rmS M f p) (qf : 0 ≤ f → ∀ d, d < (M 1 0).toNat → nd d ≤ 100) : jok (jW Q W) N nd f W (Q 19) := by
  have g0 := hT.1
  have g1 := hT.2.1
  unfold jok
  rw [hf 1 (by decide) (by decide), hf 14 (by decide) (by decide)]
  refine ⟨by show (Q 17 0).toNat = _; rw [q0], by show (Q 17 1).toNat = _; rw [q1], qn, fun d p h1 h2 => ?_, fun s hs => ?_, rfl, fun p hp => ?_⟩
  · show (if d < 6 then Q (20 + 1 + d) p else 0) = _
    rw [if_pos (by omega), qr d p h1 h2, rc_f1 hf (by omega)]
  · show Q 27 s = _
    rw [qm s hs]
    exact b01_c (mo_f1 hf).symm
  · rw [ql p hp]
    unfold rmS
    have := hT.2.2.2.2.2.2.2.2.2.1 p (by omega)
    refine ⟨by split <;> omega, fun h => if_neg h, fun h g => ?_⟩
    rw [if_pos h]
    have := ld_100 (nd := nd) (g := g) (p := p) (n := (M 1 0).toNat) (fun d hd => ⟨(qn d hd).2, qf (by omega) d hd⟩)
    omega
theorem jok_ld {M N Q : sx_M0} (hT : tw M) (hf : fr1 M N) {f : Int} {W : Nat} (hQ : ∀ a, a = 17 ∨ a = 18 ∨ a = 19 ∨ (21 ≤ a ∧ a ≤ 27) → Q a = ldM M f a ∨ (a = 17 ∧ Q 17 0 = ldM M f 17 0 ∧ Q 17 1 = ldM M f 17 1)) : jok (jW Q W) N (fun d => M 2 d) f W (Q 19) := by
  have g0 := hT.1
  have g1 := hT.2.1
  have e : ∀ a, a = 18 ∨ a = 19 ∨ (21 ≤ a ∧ a ≤ 27) → Q a = ldM M f a := fun a ha => by
    rcases hQ a (by omega) with y | y
    · exact y
    · omega
  have e17 : Q 17 0 = M 1 0 ∧ Q 17 1 = M 1 1 := by
    have : Q 17 0 = ldM M f 17 0 ∧ Q 17 1 = ldM M f 17 1 := by
      rcases hQ 17 (by omega) with y | y
      · rw [y]; exact ⟨rfl, rfl⟩
      · exact y.2
    rw [ldM_17 hT, la_0, la_1] at this
    exact this
  refine jok_gen hT hf e17.1 e17.2 (fun d hd => ?_) (fun d p h1 h2 => ?_) (fun s hs => ?_) (fun p hp => ?_) (fun _ d hd => (hT.2.2.2.1 d (by omega)).2)
  · rw [e 18 (by omega), ldM_18 hT, if_pos hd]
    exact ⟨rfl, (hT.2.2.2.1 d (by omega)).1⟩
  · rw [e (20 + 1 + d) (by omega), ldM_21 (by omega), if_pos ⟨h1, h2⟩]
  · rw [e 27 (by omega), ldM_27 hT, if_pos hs]
  · rw [e 19 (by omega), ldM_19, if_pos hp]
theorem ak_all {M : sx_M0} {d : Nat} (hd : d < (M 1 0).toNat) : akS M (2 ^ (M 1 0).toNat - 1) 0 d = M 2 d := by
  unfold akS
  rw [if_pos ⟨by omega, by rw [Nat.testBit_two_pow_sub_one]; exact decide_eq_true hd⟩]
  omega
theorem ak_year {M : sx_M0} {d y : Nat} (hd : d < (M 1 0).toNat) : akS M (2 ^ (M 1 0).toNat - 1) y d = nyS M (y : Int) d := by
  unfold akS nyS
  rw [if_pos ⟨by omega, by rw [Nat.testBit_two_pow_sub_one]; exact decide_eq_true hd⟩]
/-- the best plan: class and reference -/
theorem tie_ld {M N Q : sx_M0} (hT : tw M) (hf : fr1 M N) {f r x : Int} {bg b : Nat → Int} (hQ : ∀ a, a = 17 ∨ a = 18 ∨ a = 19 ∨ (21 ≤ a ∧ a ≤ 27) → Q a = ldM M f a ∨ (a = 17 ∧ Q 17 0 = ldM M f 17 0 ∧ Q 17 1 = ldM M f 17 1)) (h1 : bstP (jW Q 31) (Q 19) 0 r bg) (h2 : bsR N (akS N (2 ^ (N 1 0).toNat - 1) 0) f 0 x (fun _ => True) b) : r = x ∧ (r ≠ -1 → ∀ d, d < 6 → bg d = b d) := by
  have hTN : tw N := tw_fr1 hf hT
  have g0 := hTN.1
  have h2' : bsR N (fun d => M 2 d) f 0 x (fun _ => True) b := bsR_congr (by omega) (fun _ _ => rfl) (fun d hd => by rw [ak_all hd, hf 2 (by decide) (by decide)]) h2
  exact tie_best hTN (jok_ld hT hf hQ) h1 h2'
/-! sets of districts, told from both ends -/
def rvS (n c : Nat) : Nat → Nat
  | 0 => 0
  | k + 1 => rvS n c k + (if c.testBit (n - 1 - k) = true then 2 ^ k else 0)
def rv (n c : Nat) : Nat := rvS n c n
theorem rv_lt : ∀ n, n < 7 → ∀ c, c < 2 ^ n → rv n c < 2 ^ n := by decide +kernel
theorem rv_bit : ∀ n, n < 7 → ∀ c, c < 2 ^ n → ∀ d, d < 6 → (rv n c).testBit d = (decide (d < n) && c.testBit (n - 1 - d)) := by decide +kernel
theorem rv_bc : ∀ n, n < 7 → ∀ c, c < 2 ^ n → bcS (rv n c) = bcS c := by decide +kernel
theorem rv_ky : ∀ n, n < 7 → ∀ c, c < 2 ^ n → kyS (rv n c) = c * 2 ^ (6 - n) := by decide +kernel
theorem rv_rv : ∀ n, n < 7 → ∀ c, c < 2 ^ n → rv n (rv n c) = c := by decide +kernel
theorem rv_pos : ∀ n, n < 7 → ∀ c, c < 2 ^ n → 0 < c → 0 < rv n c := by decide +kernel
theorem no_np {M N Q : sx_M0} (hT : tw M) (hf : fr1 M N) (hQ : ∀ a, a = 17 ∨ a = 18 ∨ a = 19 ∨ (21 ≤ a ∧ a ≤ 27) → Q a = ldM M (-1) a ∨ (a = 17 ∧ Q 17 0 = ldM M (-1) 17 0 ∧ Q 17 1 = ldM M (-1) 17 1)) (hQ2 : Q 2 = M 2) {c : Nat} (hc : c < 2 ^ (M 1 0).toNat) : noP Q c ↔ npS N (rv (M 1 0).toNat c) := by
  have g0 := hT.1
  have g1 := hT.2.1
  have hTN : tw N := tw_fr1 hf hT
  have e : ∀ a, a = 18 ∨ a = 19 ∨ (21 ≤ a ∧ a ≤ 27) → Q a = ldM M (-1) a := fun a ha => by
    rcases hQ a (by omega) with y | y
    · exact y
    · omega
  have e17 : Q 17 0 = M 1 0 ∧ Q 17 1 = M 1 1 := by
    have : Q 17 0 = ldM M (-1) 17 0 ∧ Q 17 1 = ldM M (-1) 17 1 := by
      rcases hQ 17 (by omega) with y | y
      · rw [y]; exact ⟨rfl, rfl⟩
      · exact y.2
    rw [ldM_17 hT, la_0, la_1] at this
    exact this
  have n1 : ∀ a, a ≠ 18 → needC Q c a = Q a := fun a ha => tfS_ne ha
  have hJ : jok (jW (needC Q c) 31) N (akS N (rv (M 1 0).toNat c) 0) (-1) 31 (needC Q c 19) := by
    refine jok_gen hT hf (by rw [n1 17 (by decide)]; exact e17.1) (by rw [n1 17 (by decide)]; exact e17.2) (fun d hd => ?_) (fun d p h1 h2 => ?_) (fun s hs => ?_) (fun p hp => ?_) (fun h => absurd h (by decide))
    · have hb := akS_bd hTN (u := rv (M 1 0).toNat c) (y := 0) (d := d) (by decide) (by omega)
      refine ⟨?_, hb.1⟩
      show tfS Q 18 _ _ 18 d = _
      rw [tfS_lt (by rw [e17.1]; exact hd)]
      unfold nsS akS
      rw [e17.1, hf 1 (by decide) (by decide), hf 2 (by decide) (by decide), hQ2, rv_bit _ (by omega) c hc d (by omega), decide_eq_true hd, Bool.true_and]
      by_cases z : c.testBit ((M 1 0).toNat - 1 - d) = true
      · rw [if_pos z, if_pos ⟨by omega, z⟩]
        omega
      · rw [if_neg z, if_neg (fun w => z w.2)]
    · rw [n1 _ (by omega), e (20 + 1 + d) (by omega), ldM_21 (by omega), if_pos ⟨h1, h2⟩]
    · rw [n1 _ (by decide), e 27 (by omega), ldM_27 hT, if_pos hs]
    · rw [n1 _ (by decide), e 19 (by omega), ldM_19, if_pos hp]
  have w31 : ∀ p, p < 5 → (31 : Nat).testBit p = true := by decide
  unfold noP npS
  rw [show Q 19 = needC Q c 19 from (n1 19 (by decide)).symm]
  have hgN : N 1 1 ≤ 5 := hTN.2.1.2
  constructor
  · intro h ⟨g, hg⟩
    exact h ⟨g, (CP_FP hTN hJ).mpr ⟨hg.1, hg.2.2, fun d hd h0 => w31 _ (by have := (hg.1 d hd).2; omega)⟩⟩
  · intro h ⟨g, hg⟩
    have := (CP_FP hTN hJ).mp hg
    exact h ⟨_, pn_cut hTN this.1 this.2.1⟩
/-- the set that can't be served: class and reference name the same -/
theorem tie_clash {n c cs : Nat} {Pc Pu : Nat → Prop} (hn : n < 7) (hP : ∀ c, c < 2 ^ n → (Pc c ↔ Pu (rv n c))) (hc : c < 2 ^ n) (hc0 : 0 < c) (h1 : Pc c) (h2 : ∀ c', 0 < c' → c' < 2 ^ n → (bcS c' < bcS c ∨ (bcS c' = bcS c ∧ c < c')) → ¬ Pc c') (hs : cs < 2 ^ n) (hs0 : 0 < cs) (h3 : Pu cs) (h4 : ∀ u, 0 < u → u < 2 ^ n → (bcS u < bcS cs ∨ (bcS u = bcS cs ∧ kyS cs < kyS u)) → ¬ Pu u) : cs = rv n c := by
  have r1 := rv_lt n hn cs hs
  have r2 := rv_pos n hn cs hs hs0
  have r3 := rv_bc n hn cs hs
  have r4 := rv_rv n hn cs hs
  have k1 := rv_ky n hn c hc
  have k2 := rv_ky n hn (rv n cs) r1
  rw [r4] at k2
  have p1 : Pc (rv n cs) := (hP _ r1).mpr (by rw [r4]; exact h3)
  have p2 : Pu (rv n c) := (hP _ hc).mp h1
  have b2 := rv_bc n hn c hc
  have a1 : ¬ (bcS (rv n cs) < bcS c ∨ (bcS (rv n cs) = bcS c ∧ c < rv n cs)) := fun z => h2 _ r2 r1 z p1
  have a2 : ¬ (bcS (rv n c) < bcS cs ∨ (bcS (rv n c) = bcS cs ∧ kyS cs < kyS (rv n c))) := fun z => h4 _ (rv_pos n hn c hc hc0) (rv_lt n hn c hc) z p2
  rw [r3] at a1
  rw [b2, k1, k2] at a2
  have hp : 0 < 2 ^ (6 - n) := Nat.two_pow_pos _
  have e : c = rv n cs := by
    have q1 : rv n cs ≤ c := by omega
    have q2 : c * 2 ^ (6 - n) ≤ rv n cs * 2 ^ (6 - n) := by omega
    have q3 : c ≤ rv n cs := Nat.le_of_mul_le_mul_right q2 hp
    omega
  rw [e, r4]
theorem pc_step {u n : Nat} : pcS u (n + 1) = pcS u n + (if u.testBit n = true then 1 else 0) := rfl
theorem pc_mono {u a : Nat} : ∀ {b : Nat}, a ≤ b → pcS u a ≤ pcS u b
  | 0, h => by
    have : a = 0 := by omega
    subst this
    exact Nat.le_refl _
  | b + 1, h => by
    by_cases e : a = b + 1
    · subst e; exact Nat.le_refl _
    · have := pc_mono (u := u) (a := a) (b := b) (by omega)
      rw [pc_step]
      omega
theorem cl_hit {u : Nat} {k : Int} {e : Nat} (he : e < 6) (hb : u.testBit e = true) (hk : (pcS u e : Int) = k) : ∀ (n d : Nat), d + n = 6 → d ≤ e → clF u k n d (pcS u d : Int) = (e : Int)
  | 0, d, h1, h2 => by omega
  | n + 1, d, h1, h2 => by
    have ih := fun h => cl_hit he hb hk n (d + 1) (by omega) h
    show (if u.testBit d = true then (if (pcS u d : Int) = k then (d : Int) else clF u k n (d + 1) ((pcS u d : Int) + 1)) else clF u k n (d + 1) (pcS u d : Int)) = _
    by_cases q : d = e
    · subst q
      rw [if_pos hb, if_pos hk]
    · have ih := ih (by omega)
      rw [pc_step] at ih
      by_cases z : u.testBit d = true
      · rw [if_pos z] at ih ⊢
        have m := pc_mono (u := u) (a := d + 1) (b := e) (by omega)
        rw [pc_step, if_pos z] at m
        rw [if_neg (by omega)]
        exact ih
      · rw [if_neg z] at ih ⊢
        exact ih
theorem cl_miss {u : Nat} {k : Int} (h : ∀ e, e < 6 → u.testBit e = true → (pcS u e : Int) ≠ k) : ∀ (n d : Nat), d + n = 6 → clF u k n d (pcS u d : Int) = -1
  | 0, d, h1 => rfl
  | n + 1, d, h1 => by
    have ih := cl_miss h n (d + 1) (by omega)
    show (if u.testBit d = true then (if (pcS u d : Int) = k then (d : Int) else clF u k n (d + 1) ((pcS u d : Int) + 1)) else clF u k n (d + 1) (pcS u d : Int)) = _
    rw [pc_step] at ih
    by_cases z : u.testBit d = true
    · rw [if_pos z] at ih ⊢
      rw [if_neg (h d (by omega) z)]
      exact ih
    · rw [if_neg z] at ih ⊢
      exact ih
theorem pc_find {u : Nat} : ∀ {n k : Nat}, k < pcS u n → ∃ e, e < n ∧ u.testBit e = true ∧ pcS u e = k
  | 0, k, h => by
    have : k < 0 := h
    omega
  | n + 1, k, h => by
    rw [pc_step] at h
    by_cases q : k < pcS u n
    · obtain ⟨e, h1, h2⟩ := pc_find q
      exact ⟨e, by omega, h2⟩
    · by_cases z : u.testBit n = true
      · rw [if_pos z] at h
        exact ⟨n, Nat.lt_succ_self n, z, by omega⟩
      · rw [if_neg z] at h
        omega
theorem ct_pc {c n u : Nat} (hu : ∀ d, d < n → u.testBit d = c.testBit (n - 1 - d)) : ∀ {d : Nat}, d ≤ n → ctS c n d = pcS u d
  | 0, _ => rfl
  | d + 1, h => by
    show ctS c n d + (if c.testBit (n - 1 - d) = true then 1 else 0) = _
    rw [ct_pc hu (by omega), pc_step, hu d (by omega)]
theorem pc_hi {u n : Nat} (hu : ∀ d, d < 6 → n ≤ d → u.testBit d = false) : ∀ {d : Nat}, n ≤ d → d ≤ 6 → pcS u d = pcS u n
  | 0, h, _ => by
    have : n = 0 := by omega
    subst this; rfl
  | d + 1, h, h6 => by
    by_cases e : n = d + 1
    · subst e; rfl
    · rw [pc_step, hu d (by omega) (by omega), pc_hi hu (by omega) (by omega)]
      rfl
/-- what clash answers: the class's row and the reference's set -/
theorem tie_mb {M3 M : sx_M0} {c n : Nat} (hn : n < 7) (hc : c < 2 ^ n) (h : liI M3 M c n n) (k : Int) : mbS M k = clF (rv n c) k 6 0 0 := by
  have hb : ∀ d, d < n → (rv n c).testBit d = c.testBit (n - 1 - d) := fun d hd => by
    rw [rv_bit n hn c hc d (by omega), decide_eq_true hd, Bool.true_and]
  have hz : ∀ d, d < 6 → n ≤ d → (rv n c).testBit d = false := fun d h1 h2 => by
    rw [rv_bit n hn c hc d h1, decide_eq_false (by omega), Bool.false_and]
  have e6 : pcS (rv n c) 6 = ctS c n n := by
    rw [pc_hi hz (show n ≤ 6 by omega) (Nat.le_refl 6), ct_pc hb (Nat.le_refl n)]
  unfold mbS
  rw [h.2.2.1]
  by_cases q : 0 ≤ k ∧ k < (ctS c n n : Int)
  · rw [if_pos q]
    obtain ⟨e, h1, h2, h3⟩ := pc_find (u := rv n c) (n := 6) (k := k.toNat) (by omega)
    have hen : e < n := by
      rcases Nat.lt_or_ge e n with y | y
      · exact y
      · rw [hz e h1 y] at h2; cases h2
    have hm := h.2.2.2.1 e hen (by rw [← hb e hen]; exact h2)
    rw [ct_pc hb (by omega), h3] at hm
    rw [hm]
    exact (cl_hit h1 h2 (by omega) 6 0 rfl (Nat.zero_le e)).symm
  · rw [if_neg q]
    refine (cl_miss (fun e h1 h2 h3 => q ⟨by omega, ?_⟩) 6 0 rfl).symm
    have m := pc_mono (u := rv n c) (a := e + 1) (b := 6) (by omega)
    rw [pc_step, if_pos h2] at m
    omega
theorem cl_0 (k : Int) : clF 0 k 6 0 0 = -1 := cl_miss (u := 0) (k := k) (fun e _ h => absurd h (by rw [Nat.zero_testBit]; exact Bool.false_ne_true)) 6 0 rfl
