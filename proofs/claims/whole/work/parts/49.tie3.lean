/-! THE TIE, 3: the years, as numbers alone -/
def tyC (S R O : Nat → Nat → Int) (y s : Nat) : Prop := (O y s = -1 ∧ 1000000000000 ≤ S y s + R (y + 1) s) ∨ (0 ≤ O y s ∧ O y s = S y s + R (y + 1) s ∧ S y s + R (y + 1) s < 1000000000000)
def tyD (S R : Nat → Nat → Int) (nc : Nat → Nat → Int) (y b : Nat) (q le : Int) : Prop := (q = -1 ∧ 1000000000000 ≤ R y b) ∨ (∃ s : Nat, q = (s : Int) ∧ s < 32 ∧ le = R y b ∧ R y b < 1000000000000 ∧ S y s + nc s b + R (y + 1) s = R y b ∧ ∀ t, t < s → S y t + nc t b + R (y + 1) t ≠ R y b)
def tyR (S R : Nat → Nat → Int) (nc : Nat → Nat → Int) (k : Nat) : Prop := ∀ y b, y < k → b < 32 → (0 ≤ R y b ∧ R y b ≤ 1000000000000) ∧ (∀ o, o < 32 → R y b ≤ S y o + nc o b + R (y + 1) o) ∧ (R y b = 1000000000000 ∨ ∃ o, o < 32 ∧ R y b = S y o + nc o b + R (y + 1) o)
theorem ty_nn {S R : Nat → Nat → Int} {nc : Nat → Nat → Int} {k : Nat} (hR : tyR S R nc k) (hRk : ∀ b, b < 32 → R k b = 0) {y b : Nat} (hy : y ≤ k) (hb : b < 32) : 0 ≤ R y b := by
  by_cases e : y = k
  · rw [e, hRk b hb]; decide
  · exact (hR y b (by omega) hb).1.1
theorem ty_CD {k n : Nat} {S R O : Nat → Nat → Int} {c : Nat → Int} {nc : Nat → Nat → Int} (hn : n ≤ 32) (hS0 : ∀ y o, y < k → o < 32 → 0 ≤ S y o) (hSn : ∀ y o, y < k → n ≤ o → o < 32 → S y o = 1000000000000) (hnc : ∀ o b, o < n → b < n → nc o b = c (df o b)) (hnc0 : ∀ o b, 0 ≤ nc o b) (hc : ∀ s, s < n → 0 ≤ c s ∧ c s ≤ 5000000) (hR : tyR S R nc k) (hRk : ∀ b, b < 32 → R k b = 0) (hOb : ∀ y s, y < k → s < n → -1 ≤ O y s ∧ O y s ≤ 2000000000) {y b : Nat} (hy : y < k) (hb : b < n) (hC : ∀ s, s < n → tyC S R O y s) {q le : Int} (h : chP (O y) c b n q le) : tyD S R nc y b q le := by
  obtain ⟨r1, r2, r3⟩ := hR y b hy (by omega)
  have far : ∀ o, o < 32 → ¬ o < n → 1000000000000 ≤ S y o + nc o b + R (y + 1) o := fun o h1 h2 => by
    have a1 := hSn y o hy (by omega) h1
    have a2 := hnc0 o b
    have a3 := ty_nn hR hRk (y := y + 1) (b := o) (by omega) h1
    omega
  rcases h with ⟨h1, h2⟩ | ⟨s, h1, h2, h3, h4, h5⟩
  · refine Or.inl ⟨h1, ?_⟩
    rcases r3 with r3 | ⟨o, o1, o2⟩
    · omega
    · by_cases e : o < n
      · have a2 := hnc0 o b
        rcases hC o e with ⟨c1, c2⟩ | ⟨c1, c2, c3⟩
        · omega
        · have := h2 o e
          omega
      · have := far o o1 e
        omega
  · have cs : ∀ t, t < n → nc t b = c (df t b) ∧ 0 ≤ c (df t b) ∧ c (df t b) ≤ 5000000 := fun t ht => ⟨hnc t b ht hb, hc (df t b) (by have := df_le t b; omega)⟩
    have ks := cs s h1
    have ob := hOb y s hy h1
    rcases hC s h1 with ⟨c1, c2⟩ | ⟨c1, c2, c3⟩
    · exact absurd c1 h3
    · have le1 : le = S y s + nc s b + R (y + 1) s := by omega
      have rle := r2 s (by omega)
      have hle : le = R y b := by
        rcases r3 with r3 | ⟨o, o1, o2⟩
        · omega
        · by_cases e : o < n
          · have ko := cs o e
            rcases hC o e with ⟨d1, d2⟩ | ⟨d1, d2, d3⟩
            · omega
            · have := (h5 o e (by omega)).1
              omega
          · have := far o o1 e
            omega
      refine Or.inr ⟨s, h2, by omega, hle, by omega, by omega, fun t ht z => ?_⟩
      have kt := cs t (by omega)
      rcases hC t (by omega) with ⟨d1, d2⟩ | ⟨d1, d2, d3⟩
      · omega
      · have := (h5 t (by omega) (by omega)).2 ht
        omega
theorem ty_C {k n : Nat} {F S R O : Nat → Nat → Int} {c : Nat → Int} {nc : Nat → Nat → Int} (hn : n ≤ 32) (hS : ∀ y s, y < k → s < n → (F y s = -1 ∧ S y s = 1000000000000) ∨ (0 ≤ F y s ∧ F y s = S y s ∧ S y s ≤ 9000000)) (hS0 : ∀ y o, y < k → o < 32 → 0 ≤ S y o) (hSn : ∀ y o, y < k → n ≤ o → o < 32 → S y o = 1000000000000) (hnc : ∀ o b, o < n → b < n → nc o b = c (df o b)) (hnc0 : ∀ o b, 0 ≤ nc o b) (hc : ∀ s, s < n → 0 ≤ c s ∧ c s ≤ 5000000) (hR : tyR S R nc k) (hRk : ∀ b, b < 32 → R k b = 0) (hO : ∀ y s, y < k → s < n → owP F O c k n y s) (hOb : ∀ y s, y < k → s < n → -1 ≤ O y s ∧ O y s ≤ 2000000000) : ∀ (m y : Nat), y + m + 1 = k → ∀ s, s < n → tyC S R O y s
  | m, y, e, s, hs => by
    have hy : y < k := by omega
    have rn := ty_nn hR hRk (y := y + 1) (b := s) (by omega) (by omega)
    have sm := hS y s hy hs
    rcases hO y s hy hs with ⟨h1, h2⟩ | ⟨h1, h2, q, le, h3, h4⟩
    · by_cases f : F y s = -1
      · refine Or.inl ⟨by omega, by omega⟩
      · have ek : y + 1 = k := by
          rcases h1 with h1 | h1
          · exact h1
          · exact absurd h1 f
        have rk := hRk s (by omega)
        rw [← ek] at rk
        exact Or.inr ⟨by omega, by omega, by omega⟩
    · obtain ⟨m2, rfl⟩ : ∃ m2, m = m2 + 1 := ⟨m - 1, by omega⟩
      have hC := ty_C hn hS hS0 hSn hnc hnc0 hc hR hRk hO hOb m2 (y + 1) (by omega)
      have hD := ty_CD hn hS0 hSn hnc hnc0 hc hR hRk hOb (y := y + 1) (b := s) (by omega) hs hC h3
      rcases hD with ⟨d1, d2⟩ | ⟨t, d1, d2, d3, d4, d5, d6⟩
      · rcases h4 with ⟨w1, w2⟩ | ⟨w1, w2⟩
        · exact Or.inl ⟨w2, by omega⟩
        · exact absurd d1 w1
      · rcases h4 with ⟨w1, w2⟩ | ⟨w1, w2⟩
        · omega
        · have lb : le ≤ 2005000000 := by
            rcases h3 with ⟨z1, _⟩ | ⟨t2, z1, z2, z3, z4, z5⟩
            · exact absurd z1 w1
            · have := hc (df t2 s) (by have := df_le t2 s; omega)
              have := hOb (y + 1) t2 (by omega) z1
              omega
          exact Or.inr ⟨by omega, by omega, by omega⟩
/-! bits of sets of places -/
theorem df_bit {o b p : Nat} (hp : p < 5) : (df o b).testBit p = (o.testBit p && !b.testBit p) := by
  unfold df
  rw [Nat.testBit_and, Nat.testBit_xor, (show ∀ p, p < 5 → (31 : Nat).testBit p = true by decide) p hp, Bool.true_xor]
theorem nc_cs {M : sx_M0} {o b : Nat} : ∀ {n : Nat}, n ≤ 5 → ncS M o b n = csS M (-1) (df o b) n
  | 0, _ => rfl
  | n + 1, h => by
    show ncS M o b n + (if o.testBit n = true ∧ ¬ b.testBit n = true then M 13 n else 0) = csS M (-1) (df o b) n + (if (df o b).testBit n = true then coS M (-1) n else 0)
    rw [nc_cs (by omega), df_bit (by omega)]
    have e : coS M (-1) n = M 13 n := if_neg (by omega)
    rw [e]
    by_cases h1 : o.testBit n = true
    · by_cases h2 : b.testBit n = true
      · rw [if_neg (fun z => z.2 h2), h1, h2]; rfl
      · rw [if_pos ⟨h1, h2⟩, h1, Bool.eq_false_iff.mpr h2]; rfl
    · rw [if_neg (fun z => h1 z.1), Bool.eq_false_iff.mpr h1]; rfl
theorem nc_full {M : sx_M0} {o b P : Nat} (hP : P ≤ 5) (ho : o < 2 ^ P) : ncS M o b P = csS M (-1) (df o b) 5 := by
  rw [nc_cs hP]
  refine (cs_hi hP (fun q h1 h2 => ?_)).symm
  rw [df_bit h2, hi_bit ho h1, Bool.false_and]
theorem sub_iff {a o : Nat} : (a &&& o = a) ↔ ∀ q, a.testBit q = true → o.testBit q = true := by
  constructor
  · intro h q hq
    rw [← h, Nat.testBit_and, Bool.and_eq_true] at hq
    exact hq.2
  · intro h
    refine Nat.eq_of_testBit_eq (fun q => ?_)
    rw [Nat.testBit_and]
    by_cases e : a.testBit q = true
    · rw [e, h q e]; rfl
    · rw [Bool.eq_false_iff.mpr e]; rfl
theorem sub_g {g : Nat → Int} {n o : Nat} : (psF g n &&& o = psF g n) ↔ ∀ d, d < n → 0 ≤ g d → o.testBit (g d).toNat = true := by
  rw [sub_iff]
  constructor
  · intro h d hd h0
    exact h _ (ps_bit hd h0)
  · intro h q hq
    obtain ⟨d, h1, h2⟩ := ps_conv hq
    have := h d h1 (by omega)
    rw [h2] at this
    exact this
/-- what a set serves for in a year: class and reference -/
theorem tie_sum {M N Q : sx_M0} (hT : tw M) (hf : fr1 M N) (hQ : ∀ a, Q a = ldM M (-1) a) {y s : Nat} (hy : y ≤ 5) (hs : s < 2 ^ (M 1 1).toNat) {x v : Int} (h1 : ysP Q y s x) (h2 : sdP N (akS N (2 ^ (N 1 0).toNat - 1) y) s v) : (x = -1 ∧ v = 1000000000000) ∨ (0 ≤ x ∧ x = v ∧ v ≤ 9000000) := by
  have g0 := hT.1
  have g1 := hT.2.1
  have hTN : tw N := tw_fr1 hf hT
  have e1 : N 1 = M 1 := hf 1 (by decide) (by decide)
  have q17 : Q 17 0 = M 1 0 ∧ Q 17 1 = M 1 1 := by rw [hQ 17, ldM_17 hT, la_0, la_1]; exact ⟨rfl, rfl⟩
  have q27 : Q 27 s = b01 (moS N (-1) s 5) := by rw [hQ 27, ldM_27 hT, if_pos hs]; exact b01_c (mo_f1 hf).symm
  have n1 : ∀ a, a ≠ 18 → nY Q y a = Q a := fun a ha => tfS_ne ha
  have hJ : jok (jW (nY Q y) s) N (akS N (2 ^ (N 1 0).toNat - 1) y) (-1) s (nY Q y 19) := by
    refine jok_gen hT hf (by rw [n1 17 (by decide)]; exact q17.1) (by rw [n1 17 (by decide)]; exact q17.2) (fun d hd => ?_) (fun d p h1 h2 => ?_) (fun s hs => ?_) (fun p hp => ?_) (fun h => absurd h (by decide))
    · have hb := akS_bd hTN (u := 2 ^ (N 1 0).toNat - 1) (y := y) (d := d) hy (by omega)
      refine ⟨?_, hb.1⟩
      rw [ak_year (by rw [e1]; exact hd)]
      show tfS Q 18 _ _ 18 d = _
      rw [tfS_lt (by rw [q17.1]; exact hd)]
      unfold nyS
      rw [hQ 2, ldM_ne hT (by decide), hf 2 (by decide) (by decide)]
    · rw [n1 _ (by omega), hQ, ldM_21 (by omega), if_pos ⟨h1, h2⟩]
    · rw [n1 _ (by decide), hQ, ldM_27 hT, if_pos hs]
    · rw [n1 _ (by decide), hQ, ldM_19, if_pos hp]
  have hJ' : jok (jW (nY Q y) s) N (akS N (2 ^ (N 1 0).toNat - 1) y) (-1) s (Q 19) := by
    rw [← n1 19 (by decide)]; exact hJ
  have toCP : ∀ g, PN N (akS N (2 ^ (N 1 0).toNat - 1) y) (-1) g → psF g (N 1 0).toNat &&& s = psF g (N 1 0).toNat → CP (jW (nY Q y) s) (jW (nY Q y) s).1 0 0 (Q 19) g := fun g hg he => (CP_FP hTN hJ').mpr ⟨hg.1, hg.2.2, sub_g.mp he⟩
  rcases h1 with ⟨hb, ⟨k1, bg, k2⟩ | ⟨k1, k2⟩⟩
  · have mo : moS N (-1) s 5 := by rw [q27] at k1; exact b01_1.mp k1
    rcases k2 with ⟨a1, a2⟩ | ⟨ga, a1, a2, a3, a4, a5⟩
    · rcases h2 with ⟨b1, b2⟩ | ⟨b1, b2, gb, b3, b4, b5, b6, b7⟩
      · exact Or.inl ⟨a1, b1⟩
      · exact absurd (toCP gb b3 b4) (a2 gb)
    · have fa := (CP_FP hTN hJ').mp a1
      have pa := pn_cut hTN fa.1 fa.2.1
      have ea : ∀ d, d < (N 1 0).toNat → cut6 (N 1 0).toNat ga d = ga d := fun d hd => if_pos hd
      have ps : psF (cut6 (N 1 0).toNat ga) (N 1 0).toNat &&& s = psF (cut6 (N 1 0).toNat ga) (N 1 0).toNat := sub_g.mpr (fun d hd h0 => by rw [ea d hd] at h0 ⊢; exact fa.2.2 d hd h0)
      have g0N := hTN.1
      have es : smF N (akS N (2 ^ (N 1 0).toNat - 1) y) (cut6 (N 1 0).toNat ga) (N 1 0).toNat = smF N (akS N (2 ^ (N 1 0).toNat - 1) y) ga (N 1 0).toNat := smF_congr (by omega) (fun _ _ => rfl) ea (fun _ _ => rfl)
      have sa := CP_sm hTN hJ' a1
      rcases h2 with ⟨b1, b2⟩ | ⟨b1, b2, gb, b3, b4, b5, b6, b7⟩
      · exact absurd ⟨by rw [e1]; exact hs, mo, _, pa, ps⟩ b2
      · have sb := CP_sm hTN hJ' (toCP gb b3 b4)
        have p1 := (a5 rfl gb (toCP gb b3 b4)).1
        have p2 := b7 _ pa ps
        rw [es] at p2
        exact Or.inr ⟨a2, by omega, by omega⟩
  · have nmo : ¬ moS N (-1) s 5 := fun z => by rw [q27, b01_t z] at k1; cases k1
    rcases h2 with ⟨b1, b2⟩ | ⟨b1, b2, _⟩
    · exact Or.inl ⟨k2, b1⟩
    · exact absurd b2 nmo
