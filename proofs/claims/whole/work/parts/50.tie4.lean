/-! THE TIE, 4: years, bound, exchanges over the cells -/
theorem tie_years {M N Mc Mm : sx_M0} {k : Nat} {x x' : Int} (hI : ci M) (hf : fr1 M N) (hk1 : 1 ≤ k) (hk6 : k ≤ 6) (h1 : loP M Mc k x) (h2 : myP N Mm k x') : x = x' ∧ ((Mc 37 = M 37 ∧ Mc 38 = M 38 ∧ Mm 53 = N 53 ∧ Mm 64 = N 64) ∨ (Mc 37 0 = (k : Int) ∧ Mm 53 17 = (k : Int) ∧ (∀ b, b ≠ 17 → Mm 53 b = N 53 b) ∧ ∀ j, j < k → Mc 38 j = Mm 64 j ∧ 0 ≤ Mc 38 j ∧ Mc 38 j ≤ 31)) ∧ (∀ a, a ≠ 53 → a ≠ 64 → a ≠ 65 → a ≠ 66 → a ≠ 68 → a ≠ 69 → a ≠ 70 → Mm a = N a) := by
  have hT := hI.1
  have g1 := hT.2.1
  have hTN : tw N := tw_fr1 hf hT
  obtain ⟨M1, M2, r20, r28, q, le, hch, hc1⟩ := h1
  obtain ⟨Q1, f1, sd, z0, rs, hc2⟩ := h2
  have hp6 := pow_6 (M 1 1).toNat (by omega)
  have enS : nS M = 2 ^ (M 1 1).toNat := rfl
  have eN1 : N 1 = M 1 := hf 1 (by decide) (by decide)
  have e28 : M1 28 = ldM M (-1) 28 := r20.1.1 28 (by decide) (by decide) (by decide) (by decide) (by decide) (by decide) (Or.inl (by decide))
  have hc := c28_bd hI e28
  have e228 : M2 28 = M1 28 := r28.1 28 (by decide)
  have q13 : Q1 13 = M 13 := (f1 13 (by decide) (by decide) (by decide) (by decide) (by decide)).trans (hf 13 (by decide) (by decide))
  have q1 : Q1 1 = M 1 := (f1 1 (by decide) (by decide) (by decide) (by decide) (by decide)).trans eN1
  have hTQ : tw Q1 := tw_fr (fun a ha => f1 a (by omega) (by omega) (by omega) (by omega) (by omega)) hTN
  have hS : ∀ y s, y < k → s < nS M → (FS M1 y s = -1 ∧ Q1 69 (32 * y + s) = 1000000000000) ∨ (0 ≤ FS M1 y s ∧ FS M1 y s = Q1 69 (32 * y + s) ∧ Q1 69 (32 * y + s) ≤ 9000000) := fun y s hy hs => tie_sum hT hf (fun _ => rfl) (by omega) hs (r20.2 y s hy hs) (sd y s hy (by omega))
  have hS0 : ∀ y o, y < k → o < 32 → 0 ≤ Q1 69 (32 * y + o) := fun y o hy ho => (sd_bd (sd y o hy ho)).1
  have hSn : ∀ y o, y < k → nS M ≤ o → o < 32 → Q1 69 (32 * y + o) = 1000000000000 := fun y o hy hn ho => by
    rcases sd y o hy ho with ⟨a, _⟩ | ⟨a, _⟩
    · exact a
    · rw [eN1] at a
      exact absurd a (by omega)
  have hnc : ∀ o b, o < nS M → b < nS M → ncS Q1 o b (Q1 1 1).toNat = M1 28 (df o b) := fun o b ho _ => by
    rw [q1, nc_congr q13, nc_full (by omega) ho, e28, ldM_28 hT (by have := df_le o b; omega)]
  have hnc0 : ∀ o b, 0 ≤ ncS Q1 o b (Q1 1 1).toNat := fun o b => (nc_bd hTQ (by rw [q1]; omega)).1
  have hR : tyR (fun y o => Q1 69 (32 * y + o)) (fun y b => Q1 70 (32 * y + b)) (fun o b => ncS Q1 o b (Q1 1 1).toNat) k := fun y b hy hb => rs y b hy hb
  have hO : ∀ y s, y < k → s < nS M → owP (FS M1) (OS M2) (M1 28) k (nS M) y s := fun y s hy hs => (r28.2 y s (Nat.zero_le y) hy hs).1
  have hOb : ∀ y s, y < k → s < nS M → -1 ≤ OS M2 y s ∧ OS M2 y s ≤ 2000000000 := fun y s hy hs => by
    have := (r28.2 y s (Nat.zero_le y) hy hs).2
    unfold roB at this
    show -1 ≤ M2 (46 + 1 + y) s ∧ M2 (46 + 1 + y) s ≤ 2000000000
    omega
  have hC : ∀ y, y < k → ∀ s, s < nS M → tyC (fun y o => Q1 69 (32 * y + o)) (fun y b => Q1 70 (32 * y + b)) (OS M2) y s := fun y hy => ty_C (F := FS M1) (c := M1 28) (nc := fun o b => ncS Q1 o b (Q1 1 1).toNat) (by omega) hS hS0 hSn hnc hnc0 hc hR z0 hO hOb (k - y - 1) y (by omega)
  have hD : ∀ y b q le, y < k → b < nS M → chP (M2 (46 + 1 + y)) (M2 28) b (nS M) q le → tyD (fun y o => Q1 69 (32 * y + o)) (fun y b => Q1 70 (32 * y + b)) (fun o b => ncS Q1 o b (Q1 1 1).toNat) y b q le := fun y b q le hy hb h => by
    rw [e228] at h
    exact ty_CD (by omega) hS0 hSn hnc hnc0 hc hR z0 hOb hy hb (hC y hy) h
  have d0 := hD 0 0 q le (by omega) (by omega) hch
  rcases hc2 with ⟨w1, w2, w3⟩ | ⟨w1, w2, b2, w3⟩
  · -- no way
    rcases d0 with ⟨d1, d2⟩ | ⟨s, d1, d2, d3, d4, d5, d6⟩
    · rcases hc1 with ⟨_, v2, v3⟩ | ⟨v1, _⟩
      · subst w3
        refine ⟨by omega, Or.inl ⟨?_, ?_, f1 53 (by decide) (by decide) (by decide) (by decide) (by decide), f1 64 (by decide) (by decide) (by decide) (by decide) (by decide)⟩, fun a p1 p2 p3 p4 p5 p6 p7 => f1 a p3 p4 p5 p6 p7⟩
        · rw [v3, r28.1 37 (by decide), r20.1.1 37 (by decide) (by decide) (by decide) (by decide) (by decide) (by decide) (Or.inl (by decide)), ldM_ne hT (by decide)]
        · rw [v3, r28.1 38 (by decide), r20.1.1 38 (by decide) (by decide) (by decide) (by decide) (by decide) (by decide) (Or.inl (by decide)), ldM_ne hT (by decide)]
      · exact absurd d1 v1
    · have d4' : Q1 70 0 < 1000000000000 := d4
      omega
  · rcases d0 with ⟨d1, d2⟩ | ⟨s, d1, d2, d3, d4, d5, d6⟩
    · have d2' : 1000000000000 ≤ Q1 70 0 := d2
      omega
    · have d3' : le = Q1 70 0 := d3
      rcases hc1 with ⟨v1, _⟩ | ⟨v1, v2, b, v3⟩
      · omega
      · obtain ⟨c1, c2, c3, c4, H, c5, c6, c7⟩ := v3
        obtain ⟨m1, m2, m3, m4, m5, H', m6, m7, m8⟩ := w3
        have key : ∀ j, j ≤ k → H j = H' j ∧ H j < nS M := fun j => by
          induction j with
          | zero => intro _; rw [c5, m6]; exact ⟨rfl, by omega⟩
          | succ j ih =>
            intro hj
            obtain ⟨i1, i2⟩ := ih (by omega)
            obtain ⟨a1, a2, a3, le2, a4⟩ := c7 j (by omega)
            have a5 := (m8 j (by omega)).2
            have dj := hD j (H j) _ _ (by omega) i2 a4
            refine ⟨?_, a2⟩
            rcases dj with ⟨e1, _⟩ | ⟨s2, e1, e2, e3, e4, e5, e6⟩
            · omega
            · have es : s2 = H (j + 1) := by omega
              subst es
              rw [← i1] at a5
              obtain ⟨o1, o2, o3⟩ := a5
              rcases Nat.lt_trichotomy (H (j + 1)) (H' (j + 1)) with t | t | t
              · exact absurd e5 (o3 _ t)
              · exact t
              · exact absurd o2 (e6 _ t)
        refine ⟨by omega, Or.inr ⟨c2, m3, fun b hb => by rw [m2 b hb, f1 53 (by decide) (by decide) (by decide) (by decide) (by decide)], fun j hj => ?_⟩, fun a p1 p2 p3 p4 p5 p6 p7 => by rw [m1 a p1 p2]; exact f1 a p3 p4 p5 p6 p7⟩
        have kj := key (j + 1) (by omega)
        have a1 := (c7 j hj).1
        have a2 := (m8 j hj).1
        exact ⟨by rw [a1, a2, kj.1], by omega, by omega⟩
/-! bound -/
theorem nu_nT {M : sx_M0} (hT : tw M) {d : Nat} (hd : d < (M 1 0).toNat) : ∀ {n : Nat}, n ≤ (M 1 1).toNat → nuS (u31 (ldM M (-1))) d n = nT M d n
  | 0, _ => rfl
  | n + 1, h => by
    have g0 := hT.1
    have g1 := hT.2.1
    have ih := nu_nT hT hd (n := n) (by omega)
    have e12 : (u31 (ldM M (-1)) 17 12).toNat = 31 := by
      rw [show u31 (ldM M (-1)) 17 12 = 31 from sx_up_at]; rfl
    have er : u31 (ldM M (-1)) (20 + 1 + d) n = rcS M d n := by
      rw [show u31 (ldM M (-1)) (20 + 1 + d) = ldM M (-1) (20 + 1 + d) from sx_up_ne (by omega), ldM_21 (by omega), if_pos ⟨hd, by omega⟩]
    show (if (u31 (ldM M (-1)) 17 12).toNat.testBit n = true ∧ u31 (ldM M (-1)) (20 + 1 + d) n ≠ -1 ∧ (nuS (u31 (ldM M (-1))) d n = -1 ∨ u31 (ldM M (-1)) (20 + 1 + d) n < nuS (u31 (ldM M (-1))) d n) then u31 (ldM M (-1)) (20 + 1 + d) n else nuS (u31 (ldM M (-1))) d n) = (if rcS M d n ≠ -1 ∧ (nT M d n = -1 ∨ rcS M d n < nT M d n) then rcS M d n else nT M d n)
    rw [e12, er, ih]
    have w := (show ∀ p, p < 5 → (31 : Nat).testBit p = true by decide) n (by omega)
    by_cases c : rcS M d n ≠ -1 ∧ (nT M d n = -1 ∨ rcS M d n < nT M d n)
    · rw [if_pos ⟨w, c⟩, if_pos c]
    · rw [if_neg (fun z => c z.2), if_neg c]
theorem lr_lT {M : sx_M0} (hT : tw M) : ∀ (n d : Nat), d + n = (M 1 0).toNat → lT M d + lrS (u31 (ldM M (-1))) n d = lT M (M 1 0).toNat
  | 0, d, e => by
    have : d = (M 1 0).toNat := by omega
    subst this
    exact Int.add_zero _
  | n + 1, d, e => by
    have ih := lr_lT hT n (d + 1) (by omega)
    have e18 : u31 (ldM M (-1)) 18 d = M 2 d := by
      rw [show u31 (ldM M (-1)) 18 = ldM M (-1) 18 from sx_up_ne (by decide), ldM_18 hT, if_pos (by omega)]
    have e17 : u31 (ldM M (-1)) 17 1 = M 1 1 := by
      rw [show u31 (ldM M (-1)) 17 1 = ldM M (-1) 17 1 from sx_up_slot (by decide), ldM_17 hT, la_1]
    rw [← ih]
    show lT M d + (lrS (u31 (ldM M (-1))) n (d + 1) + (if 0 < u31 (ldM M (-1)) 18 d then u31 (ldM M (-1)) 18 d * nuS (u31 (ldM M (-1))) d (u31 (ldM M (-1)) 17 1).toNat else 0)) = lT M d + (if 0 < M 2 d then M 2 d * nT M d (M 1 1).toNat else 0) + lrS (u31 (ldM M (-1))) n (d + 1)
    rw [e18, e17, nu_nT hT (by omega) (Nat.le_refl _)]
    omega
theorem tie_bound {M : sx_M0} (hT : tw M) {x x' : Int} (h1 : (x = lrS (u31 (ldM M (-1))) (dN (ldM M (-1))) 0 ∧ ∀ d, d < dN (ldM M (-1)) → 0 < ldM M (-1) 18 d → nuS (u31 (ldM M (-1))) d (ldM M (-1) 17 1).toNat ≠ -1) ∨ (x = -1 ∧ ∃ d, d < dN (ldM M (-1)) ∧ 0 < ldM M (-1) 18 d ∧ nuS (u31 (ldM M (-1))) d (ldM M (-1) 17 1).toNat = -1)) (h2 : (x' = lT M (M 1 0).toNat ∧ ∀ d, d < (M 1 0).toNat → 0 < M 2 d → nT M d (M 1 1).toNat ≠ -1) ∨ (x' = -1 ∧ ∃ d, d < (M 1 0).toNat ∧ 0 < M 2 d ∧ nT M d (M 1 1).toNat = -1)) : x = x' := by
  have eD : dN (ldM M (-1)) = (M 1 0).toNat := by
    unfold dN
    rw [ldM_17 hT, la_0]
  have e17 : ldM M (-1) 17 1 = M 1 1 := by rw [ldM_17 hT, la_1]
  have e18 : ∀ d, d < (M 1 0).toNat → ldM M (-1) 18 d = M 2 d := fun d hd => by rw [ldM_18 hT, if_pos hd]
  have en : ∀ d, d < (M 1 0).toNat → nuS (u31 (ldM M (-1))) d (M 1 1).toNat = nT M d (M 1 1).toNat := fun d hd => nu_nT hT hd (Nat.le_refl _)
  rw [eD, e17] at h1
  rcases h1 with ⟨a1, a2⟩ | ⟨a1, d, a2, a3, a4⟩
  · rcases h2 with ⟨b1, b2⟩ | ⟨b1, d, b2, b3, b4⟩
    · have := lr_lT hT (M 1 0).toNat 0 (by omega)
      have e0 : lT M 0 = 0 := rfl
      omega
    · exact absurd (by rw [en d b2]; exact b4) (a2 d b2 (by rw [e18 d b2]; exact b3))
  · rw [e18 d a2] at a3
    rw [en d a2] at a4
    rcases h2 with ⟨b1, b2⟩ | ⟨b1, _⟩
    · exact absurd a4 (b2 d a2 a3)
    · omega
/-! exchanges -/
theorem smF_upf {M : sx_M0} {ak g : Nat → Int} {d p : Nat} (h0 : 0 ≤ g d) : ∀ {n : Nat}, smF M ak (upf g d (p : Int)) n = smF M ak g n + (if d < n then ak d * M (4 + 1 + d) p - ak d * M (4 + 1 + d) (g d).toNat else 0)
  | 0 => by
    rw [if_neg (by omega)]; rfl
  | n + 1 => by
    have ih := smF_upf (M := M) (ak := ak) (p := p) h0 (n := n)
    show smF M ak (upf g d (p : Int)) n + (if 0 ≤ upf g d (p : Int) n then ak n * M (4 + 1 + n) (upf g d (p : Int) n).toNat else 0) = smF M ak g n + (if 0 ≤ g n then ak n * M (4 + 1 + n) (g n).toNat else 0) + _
    rw [ih]
    by_cases e : n = d
    · subst e
      rw [if_neg (Nat.lt_irrefl n), if_pos (Nat.lt_succ_self n), show upf g n (p : Int) n = (p : Int) from if_pos rfl, if_pos (by omega), if_pos h0, Int.toNat_natCast]
      omega
    · rw [show upf g d (p : Int) n = g n from if_neg e]
      by_cases c : d < n
      · rw [if_pos c, if_pos (show d < n + 1 by omega)]
        omega
      · rw [if_neg c, if_neg (show ¬ d < n + 1 by omega)]
        omega
theorem upf_bd {g : Nat → Int} {d p D : Nat} {P : Int} (hp : (p : Int) < P) (h : ∀ e, e < D → -1 ≤ g e ∧ g e < P) : ∀ e, e < D → -1 ≤ upf g d (p : Int) e ∧ upf g d (p : Int) e < P := fun e he => by
  unfold upf
  by_cases q : e = d
  · rw [if_pos q]; omega
  · rw [if_neg q]; exact h e he
/-- the same exchanges -/
theorem tie_ex {M N L : sx_M0} (hT : tw M) (hf : fr1 M N) (hL : ∀ a, L a = ldM M (-1) a) {g g' : Nat → Int} (hg : ∀ d, d < 6 → g d = g' d) (hb : ∀ d, d < (M 1 0).toNat → -1 ≤ g d ∧ g d < M 1 1) {d p : Nat} (hd : d < (M 1 0).toNat) (hp : p < (M 1 1).toNat) : exS (st34 L g) d p ↔ exF N (akS N (2 ^ (N 1 0).toNat - 1) 0) g' d p := by
  have g0 := hT.1
  have g1 := hT.2.1
  have hTN : tw N := tw_fr1 hf hT
  have e1 : N 1 = M 1 := hf 1 (by decide) (by decide)
  have sL : ∀ a, a ≠ 34 → st34 L g a = ldM M (-1) a := fun a ha => (st34_ne ha).trans (hL a)
  have fL : fr1 M (st34 L g) := fun a h1 h2 => by rw [sL a (by omega), ldM_ne hT (by omega)]
  have e34 : st34 L g 34 = g := st34_at
  have eu : sx_up (st34 L g) 34 d (p : Int) 34 = upf g d (p : Int) := by
    funext b
    unfold sx_up upf
    rw [e34]
    by_cases q : b = d
    · rw [if_pos ⟨rfl, q⟩, if_pos q]
    · rw [if_neg (fun z => q z.2), if_neg q]
  have hJ : jok (jW (st34 L g) 31) N (fun d => M 2 d) (-1) 31 (st34 L g 19) := jok_ld hT hf (fun a ha => Or.inl (sL a (by omega)))
  have eD : dN (st34 L g) = (N 1 0).toNat := by
    unfold dN
    rw [sL 17 (by decide), ldM_17 hT, la_0, e1]
  have w31 : ∀ p, p < 5 → (31 : Nat).testBit p = true := by decide
  have hub := upf_bd (d := d) (show (p : Int) < M 1 1 by omega) hb
  have hPL : PL (jW (st34 L g) 31) (dN (st34 L g)) 0 0 (st34 L g 19) (upf g d (p : Int)) ↔ FP N (fun d => M 2 d) (upf g d (p : Int)) (-1) := by
    rw [eD, PL_FP hTN hJ]
    constructor
    · intro h; exact h.2.1
    · intro h
      refine ⟨fun e he => by rw [e1] at he ⊢; exact hub e he, h, fun e he h0 => w31 _ ?_⟩
      rw [e1] at he
      have := (hub e he).2
      omega
  have hak : ∀ e, e < (N 1 0).toNat → akS N (2 ^ (N 1 0).toNat - 1) 0 e = M 2 e := fun e he => by rw [ak_all he, hf 2 (by decide) (by decide)]
  have hFP : FP N (akS N (2 ^ (N 1 0).toNat - 1) 0) (upf g' d (p : Int)) (-1) ↔ FP N (fun d => M 2 d) (upf g d (p : Int)) (-1) := FP_congr (by rw [e1]; omega) (fun _ _ => rfl) (fun e he => by
      rw [e1] at he
      unfold upf
      by_cases q : e = d
      · rw [if_pos q, if_pos q]
      · rw [if_neg q, if_neg q, hg e (by omega)]) hak
  have es1 : smF N (akS N (2 ^ (N 1 0).toNat - 1) 0) g' (N 1 0).toNat = smF N (fun d => M 2 d) g (N 1 0).toNat := smF_congr (by rw [e1]; omega) (fun _ _ => rfl) (fun e he => by rw [e1] at he; rw [hg e (by omega)]) hak
  have es2 : smF N (akS N (2 ^ (N 1 0).toNat - 1) 0) (upf g' d (p : Int)) (N 1 0).toNat = smF N (fun d => M 2 d) (upf g d (p : Int)) (N 1 0).toNat := smF_congr (by rw [e1]; omega) (fun _ _ => rfl) (fun e he => by
      rw [e1] at he
      unfold upf
      by_cases q : e = d
      · rw [if_pos q, if_pos q]
      · rw [if_neg q, if_neg q, hg e (by omega)]) hak
  have rcN : rcS (st34 L g) d p = rcS N d p := by rw [rc_f1 fL (by omega), rc_f1 hf (by omega)]
  have mN : st34 L g (4 + 1 + d) = N (4 + 1 + d) := by rw [fL (4 + 1 + d) (by omega) (by omega), hf (4 + 1 + d) (by omega) (by omega)]
  unfold exS exF
  rw [eu, hPL, hFP, es1, es2, rcN, mN, e34, fL 1 (by decide) (by decide), ← hg d (by omega)]
  have key : FP N (fun d => M 2 d) (upf g d (p : Int)) (-1) → (rcS N d p = N (4 + 1 + d) p ∧ rcS N d p ≠ -1) ∧ 0 < M 2 d := fun h => by
    have ud : upf g d (p : Int) d = (p : Int) := if_pos rfl
    have hdN : d < (N 1 0).toNat := by rw [e1]; exact hd
    have b1 := (h.1 d hdN).mpr (by rw [ud]; omega)
    have hm := (mo_iff hTN (by omega)).mp h.2.2
    have hbit := ps_bit (g := upf g d (p : Int)) hdN (by rw [ud]; omega)
    rw [ud] at hbit
    have b0 := (hm.1 p (by omega) hbit).1
    have cg := (h.2.1 p (by rw [e1]; exact hp)).1 d hdN ud
    exact ⟨rc_yes (by rw [e1]; omega) (by rw [e1]; omega) b0 cg, b1⟩
  have hbd := hb d hd
  constructor
  · rintro ⟨h1, h2, h3, h4⟩
    obtain ⟨k1, k2⟩ := key h4
    refine ⟨h1.1, fun z => ?_, h4, ?_⟩
    · rw [show (g d).toNat = p by omega] at h3
      omega
    · rw [smF_upf h1.1, if_pos (by rw [e1]; exact hd)]
      have q3 : N (4 + 1 + d) p < N (4 + 1 + d) (g d).toNat := by omega
      have := Int.mul_lt_mul_of_pos_left q3 k2
      omega
  · rintro ⟨h1, h2, h3, h4⟩
    obtain ⟨k1, k2⟩ := key h3
    refine ⟨⟨h1, by omega⟩, k1.2, ?_, h3⟩
    rw [smF_upf h1, if_pos (by rw [e1]; exact hd)] at h4
    rw [k1.1]
    refine Int.lt_of_mul_lt_mul_left (a := M 2 d) ?_ (by omega)
    omega
