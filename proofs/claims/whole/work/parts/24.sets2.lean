theorem tb_hi : ∀ p, p < 5 → ∀ b, b < 2 ^ p → ∀ q, q < 5 → ((2 ^ p + b).testBit q = (decide (q = p) || b.testBit q)) ∧ (p ≤ q → b.testBit q = false) := by decide +kernel
theorem shl_bit : ∀ p, p < 6 → sx_shl 1 ((p : Nat) : Int) = ((2 ^ p : Nat) : Int) := by decide +kernel
theorem or_add : ∀ p, p < 5 → ∀ b, b < 2 ^ p → sx_or ((b : Nat) : Int) ((2 ^ p : Nat) : Int) = ((2 ^ p + b : Nat) : Int) := by decide +kernel
theorem pow_5 : ∀ p, p < 5 → 2 ^ p ≤ 16 := by decide
theorem cs_congr {M : sx_M0} {f : Int} {s t : Nat} : ∀ {n : Nat}, (∀ q, q < n → s.testBit q = t.testBit q) → csS M f s n = csS M f t n
  | 0, _ => rfl
  | n + 1, h => by
    unfold csS
    rw [cs_congr (fun q hq => h q (by omega)), h n (by omega)]
theorem cs_hi {M : sx_M0} {f : Int} {s p : Nat} : ∀ {n : Nat}, p ≤ n → (∀ q, p ≤ q → q < n → s.testBit q = false) → csS M f s n = csS M f s p
  | 0, h, _ => by
    have : p = 0 := by omega
    rw [this]
  | n + 1, h, hb => by
    by_cases e : p = n + 1
    · rw [e]
    · show csS M f s n + (if s.testBit n = true then coS M f n else 0) = csS M f s p
      rw [hb n (by omega) (by omega), if_neg (by decide), cs_hi (n := n) (by omega) (fun q h1 h2 => hb q h1 (by omega))]
      exact Int.add_zero _
theorem nb_congr {M : sx_M0} {s t p : Nat} : ∀ {n : Nat}, (∀ q, q < n → s.testBit q = t.testBit q) → nbS M s p n → nbS M t p n
  | 0, _, _ => trivial
  | n + 1, h, hn => ⟨nb_congr (fun q hq => h q (by omega)) hn.1, by rw [← h n (by omega)]; exact hn.2⟩
theorem mo_congr {M : sx_M0} {f : Int} {s t : Nat} : ∀ {n : Nat}, (∀ q, q < n → s.testBit q = t.testBit q) → moS M f s n → moS M f t n
  | 0, _, _ => trivial
  | n + 1, h, hn => by
    refine ⟨mo_congr (fun q hq => h q (by omega)) hn.1, fun hb => ?_⟩
    rw [← h n (by omega)] at hb
    obtain ⟨h1, h2, h3⟩ := hn.2 hb
    exact ⟨h1, by rw [← cs_congr h]; exact h2, nb_congr (fun q hq => h q (by omega)) h3⟩
theorem mo_hi {M : sx_M0} {f : Int} {s p : Nat} : ∀ {n : Nat}, p ≤ n → (∀ q, p ≤ q → q < n → s.testBit q = false) → (moS M f s n ↔ moS M f s p)
  | 0, h, _ => by
    have : p = 0 := by omega
    rw [this]
  | n + 1, h, hb => by
    by_cases e : p = n + 1
    · rw [e]
    · rw [← mo_hi (n := n) (p := p) (by omega) (fun q h1 h2 => hb q h1 (by omega))]
      constructor
      · exact fun z => z.1
      · exact fun z => ⟨z, fun q => by rw [hb n (by omega) (by omega)] at q; cases q⟩
theorem cs_step {M : sx_M0} {f : Int} {p b : Nat} (hp : p < 5) (hb : b < 2 ^ p) : csS M f (2 ^ p + b) 5 = csS M f b 5 + coS M f p := by
  have h := tb_hi p hp b hb
  rw [cs_hi (s := 2 ^ p + b) (p := p + 1) (n := 5) (by omega) (fun q h1 h2 => by rw [(h q h2).1, (h q h2).2 (by omega)]; simp; omega), cs_hi (s := b) (p := p) (n := 5) (by omega) (fun q h1 h2 => (h q h2).2 h1)]
  show csS M f (2 ^ p + b) p + (if (2 ^ p + b).testBit p = true then coS M f p else 0) = _
  rw [if_pos (by rw [(h p hp).1]; simp), cs_congr (t := b) (fun q hq => by rw [(h q (by omega)).1]; simp; omega)]
theorem mo_step {M : sx_M0} {f : Int} {p b : Nat} (hp : p < 5) (hb : b < 2 ^ p) : moS M f (2 ^ p + b) 5 ↔ moS M f b 5 ∧ M 16 p = 0 ∧ csS M f b 5 + coS M f p ≤ M 1 2 ∧ nbS M b p p := by
  have h := tb_hi p hp b hb
  have hlo : ∀ q, q < p → (2 ^ p + b).testBit q = b.testBit q := fun q hq => by rw [(h q (by omega)).1]; simp; omega
  have hhi : ∀ q, p + 1 ≤ q → q < 5 → (2 ^ p + b).testBit q = false := fun q h1 h2 => by rw [(h q h2).1, (h q h2).2 (by omega)]; simp; omega
  have hp1 : (2 ^ p + b).testBit p = true := by rw [(h p hp).1]; simp
  rw [mo_hi (s := 2 ^ p + b) (p := p + 1) (n := 5) (by omega) hhi, mo_hi (s := b) (p := p) (n := 5) (by omega) (fun q h1 h2 => (h q h2).2 h1)]
  have e : csS M f (2 ^ p + b) (p + 1) = csS M f b 5 + coS M f p := by
    rw [← cs_hi (s := 2 ^ p + b) (p := p + 1) (n := 5) (by omega) hhi]
    exact cs_step hp hb
  constructor
  · rintro ⟨z1, z2⟩
    obtain ⟨y1, y2, y3⟩ := z2 hp1
    exact ⟨mo_congr hlo z1, y1, by rw [← e]; exact y2, nb_congr hlo y3⟩
  · rintro ⟨z1, z2, z3, z4⟩
    exact ⟨mo_congr (fun q hq => (hlo q hq).symm) z1, fun _ => ⟨z2, by rw [e]; exact z3, nb_congr (fun q hq => (hlo q hq).symm) z4⟩⟩
/-- the tables of the sets, the first n of them done -/
noncomputable def stS (M : sx_M0) (f : Int) (n : Nat) : sx_M0 := fun a b => if a = 28 ∧ b < n then csS M f b 5 else if a = 27 ∧ b < n then b01 (moS M f b 5) else M a b
theorem stS_ne {M : sx_M0} {f : Int} {n a : Nat} (h1 : a ≠ 27) (h2 : a ≠ 28) : stS M f n a = M a := by
  funext b
  simp [stS, h1, h2]
theorem stS_28 {M : sx_M0} {f : Int} {n b : Nat} (h : b < n) : stS M f n 28 b = csS M f b 5 := by
  simp [stS, h]
theorem stS_27 {M : sx_M0} {f : Int} {n b : Nat} (h : b < n) : stS M f n 27 b = b01 (moS M f b 5) := by
  simp [stS, h]
theorem st_up {M : sx_M0} {f x v : Int} {n : Nat} (hx : x = csS M f n 5) (hv : v = b01 (moS M f n 5)) : sx_up (sx_up (stS M f n) 28 n x) 27 n v = stS M f (n + 1) := by
  subst hx; subst hv
  funext a b
  unfold sx_up stS
  by_cases h8 : a = 28
  · subst h8
    by_cases h2 : b = n
    · simp [h2]
    · have h3 : (b < n + 1) ↔ (b < n) := by omega
      simp [h2, h3]
  · by_cases h7 : a = 27
    · subst h7
      by_cases h2 : b = n
      · simp [h2]
      · have h3 : (b < n + 1) ↔ (b < n) := by omega
        simp [h2, h3]
    · simp [h8, h7]
theorem st_1 {M : sx_M0} {f : Int} : sx_up (sx_up M 27 0 1) 28 0 0 = stS M f 1 := by
  have e1 : csS M f 0 5 = 0 := by simp [csS]
  have e2 : b01 (moS M f 0 5) = 1 := b01_t (by simp [moS])
  funext a b
  unfold sx_up stS
  by_cases h8 : a = 28
  · subst h8
    by_cases h2 : b = 0
    · subst h2
      simp [e1]
    · simp [h2]
  · by_cases h7 : a = 27
    · subst h7
      by_cases h2 : b = 0
      · subst h2
        simp [e2]
      · simp [h2]
    · simp [h8, h7]
theorem tw_fr {M M' : sx_M0} (h : ∀ a, a ≤ 16 → M' a = M a) (hT : tw M) : tw M' := by
  unfold tw at hT ⊢
  rw [h 1 (by decide), h 2 (by decide), h 3 (by decide), h 11 (by decide), h 12 (by decide), h 13 (by decide), h 14 (by decide), h 15 (by decide), h 16 (by decide)]
  refine ⟨hT.1, hT.2.1, hT.2.2.1, hT.2.2.2.1, hT.2.2.2.2.1, fun d p hd hp => ?_, hT.2.2.2.2.2.2⟩
  rw [h (4 + 1 + d) (by omega)]
  exact hT.2.2.2.2.2.1 d p hd hp
theorem nr_fr {M M' : sx_M0} (h : ∀ a, a ≤ 16 → M' a = M a) {p q : Nat} : nrS M' p q ↔ nrS M p q := by
  unfold nrS
  rw [h 11 (by decide), h 12 (by decide), h 15 (by decide)]
theorem nb_fr {M M' : sx_M0} (h : ∀ a, a ≤ 16 → M' a = M a) {s p : Nat} : ∀ {n : Nat}, nbS M' s p n ↔ nbS M s p n
  | 0 => Iff.rfl
  | n + 1 => by
    unfold nbS
    rw [nb_fr h, nr_fr h]
theorem cs_bd {M : sx_M0} (hT : tw M) {f : Int} {s : Nat} : ∀ {n : Nat}, n ≤ 5 → 0 ≤ csS M f s n ∧ csS M f s n ≤ 1000000 * (n : Int)
  | 0, _ => by simp [csS]
  | n + 1, h => by
    have h1 := cs_bd hT (f := f) (s := s) (n := n) (by omega)
    have h2 := hT.2.2.2.2.2.2.2.2.1 n (by omega)
    have e : ((n + 1 : Nat) : Int) = (n : Int) + 1 := rfl
    unfold csS coS
    rw [e]
    split
    · split <;> omega
    · omega

set_option maxRecDepth 100000 in
set_option maxHeartbeats 4000000 in
theorem lp2_Se_loadSets  (M : sx_M0) (hT : tw M) (f : Int) (hf : -1 ≤ f ∧ f ≤ 4) (p : Nat) (hp : p < 5) (c : Int) (hc : c = coS M f p) {E : sx_E} (C : sx_C SC g_tbl "SiteChoice$Search" c_Se_loadSets E) (Rr : sx_Ret SC none (rmk 3 120) (fun r G' M' => G' = GL ∧ M' = stS M f (2 ^ (M 17 1).toNat) ∧ r = none) E) (hnL : sx_nL E = 9) (hk : sx_X SC E (0, 0) GL (stS M f (2 ^ (p + 1))) 142 [(3, sx_I (((p : Nat) : Int))), (0, sx_A (17)), (1, sx_A (1)), (2, sx_I (f))] []) : ∀ (nF : Nat) (b : Nat), 2 ^ p - b < nF → b ≤ 2 ^ p → sx_X SC E (0, 0) GL (stS M f (2 ^ p + b)) 49 [(7, sx_I (((b : Nat) : Int))), (5, sx_J (c)), (4, sx_I (((2 ^ p : Nat) : Int))), (3, sx_I (((p : Nat) : Int))), (0, sx_A (17)), (1, sx_A (1)), (2, sx_I (f))] [] := by
  intro nF
  induction nF with
  | zero => intro b h; omega
  | succ nF ih =>
    intro b hn h1
    have h16 := pow_5 p hp
    have hlow : ∀ a, a ≤ 16 → (sx_up (stS M f (2 ^ p + b)) 28 (2 ^ p + b) (csS M f b 5 + c)) a = M a := fun a ha => by rw [sx_up_ne (by omega), stS_ne (by omega) (by omega)]
    refine sx_iload C 0 d_Se_loadSets_49 rfl ?_
    refine sx_iload C 2 d_Se_loadSets_51 rfl ?_
    refine sx_icmp_ge C 142 ⟨by omega, by omega⟩ ⟨by omega, by omega⟩ d_Se_loadSets_53 (by decide) (fun c53 => ?_) (fun c53 => ?_)
    · refine sx_sub [3, 4, 5, 6] rfl ?_
      rw [show 2 ^ p + b = 2 ^ (p + 1) by rw [Nat.pow_succ]; omega]
      exact hk
    · have h1b : b < 2 ^ p := by omega
      refine sx_iload C 0 d_Se_loadSets_56 rfl ?_
      refine sx_iload C 2 d_Se_loadSets_58 rfl ?_
      refine sx_ior C d_Se_loadSets_60 ?_
      rw [or_add p hp b (by omega)]
      refine sx_istore (lv' := [(8, sx_I (((2 ^ p + b : Nat) : Int))), (7, sx_I (((b : Nat) : Int))), (5, sx_J (c)), (4, sx_I (((2 ^ p : Nat) : Int))), (3, sx_I (((p : Nat) : Int))), (0, sx_A (17)), (1, sx_A (1)), (2, sx_I (f))]) C d_Se_loadSets_61 (by rw [hnL]; decide) rfl ?_
      refine sx_aload_n C 5 d_Se_loadSets_63 rfl rfl ?_
      refine sx_getr C f_Se_34 28 (by decide) rfl rfl d_Se_loadSets_64 ?_
      refine sx_iload C 0 d_Se_loadSets_67 rfl ?_
      refine sx_aload_n C 5 d_Se_loadSets_69 rfl rfl ?_
      refine sx_getr C f_Se_34 28 (by decide) rfl rfl d_Se_loadSets_70 ?_
      refine sx_iload C 1 d_Se_loadSets_73 rfl ?_
      refine sx_laload C b (by decide) rfl rfl rfl (by omega) (by decide) d_Se_loadSets_75 ?_
      rw [stS_28 (by omega)]
      refine sx_lload C 2 d_Se_loadSets_76 rfl ?_
      refine sx_ladd C d_Se_loadSets_78 ?_
      refine sx_lastore C (2 ^ p + b) (by decide) rfl rfl rfl (by omega) (by decide) d_Se_loadSets_79 ?_
      refine sx_aload_n C 5 d_Se_loadSets_80 rfl rfl ?_
      refine sx_getr C f_Se_30 27 (by decide) rfl rfl d_Se_loadSets_81 ?_
      refine sx_iload C 0 d_Se_loadSets_84 rfl ?_
      refine sx_aload_n C 5 d_Se_loadSets_86 rfl rfl ?_
      refine sx_getr C f_Se_30 27 (by decide) rfl rfl d_Se_loadSets_87 ?_
      refine sx_iload C 1 d_Se_loadSets_90 rfl ?_
      refine sx_zaload C b (by decide) rfl rfl rfl (by omega) (by decide) d_Se_loadSets_92 ?_
      rw [sx_up_ne (by decide), stS_27 (by omega)]
      have hb01 := b01_or (moS M f b 5)
      refine sx_if_eq C 134 ⟨by omega, by omega⟩ d_Se_loadSets_93 (by decide) (fun c93 => ?_) (fun c93 => ?_)
      · refine sx_iconst C d_Se_loadSets_134 ?_
        refine sx_zastore C (2 ^ p + b) (by omega) (by decide) rfl rfl rfl (by omega) (by decide) d_Se_loadSets_135 ?_
        refine sx_iinc (lv' := [(7, sx_I (((b + 1 : Nat) : Int))), (8, sx_I (((2 ^ p + b : Nat) : Int))), (5, sx_J (c)), (4, sx_I (((2 ^ p : Nat) : Int))), (3, sx_I (((p : Nat) : Int))), (0, sx_A (17)), (1, sx_A (1)), (2, sx_I (f))]) C 1 d_Se_loadSets_136 rfl (by rw [hnL]; decide) rfl ?_
        refine sx_goto C 49 d_Se_loadSets_139 (by decide) ?_
        refine sx_sub [0, 2, 3, 4, 5, 6, 7] rfl ?_
        rw [st_up (M := M) (f := f) (by rw [cs_step hp h1b, hc]) ((b01_f (fun z => by obtain ⟨z1, z2, z3, z4⟩ := (mo_step hp h1b).mp z; rw [← hc] at z3; first | (have z5 := b01_t z1; omega) | omega | (rcases hb124 with ⟨y1, y2⟩ | ⟨y1, y2⟩; exact y2 z4; omega))).symm)]
        exact ih (b + 1) (by omega) (by omega)
      · refine sx_aload_n C 6 d_Se_loadSets_96 rfl rfl ?_
        refine sx_getr C f_Se_93 16 (by decide) rfl rfl d_Se_loadSets_97 ?_
        refine sx_iload_n C 4 d_Se_loadSets_100 rfl rfl ?_
        refine sx_zaload C p (by decide) rfl rfl rfl (by omega) (by decide) d_Se_loadSets_101 ?_
        rw [sx_up_ne (by decide), stS_ne (by decide) (by decide)]
        have hbar := hT.2.2.2.2.2.2.2.2.2.2.2 p hp
        refine sx_if_ne C 134 ⟨by omega, by omega⟩ d_Se_loadSets_102 (by decide) (fun c102 => ?_) (fun c102 => ?_)
        · refine sx_iconst C d_Se_loadSets_134 ?_
          refine sx_zastore C (2 ^ p + b) (by omega) (by decide) rfl rfl rfl (by omega) (by decide) d_Se_loadSets_135 ?_
          refine sx_iinc (lv' := [(7, sx_I (((b + 1 : Nat) : Int))), (8, sx_I (((2 ^ p + b : Nat) : Int))), (5, sx_J (c)), (4, sx_I (((2 ^ p : Nat) : Int))), (3, sx_I (((p : Nat) : Int))), (0, sx_A (17)), (1, sx_A (1)), (2, sx_I (f))]) C 1 d_Se_loadSets_136 rfl (by rw [hnL]; decide) rfl ?_
          refine sx_goto C 49 d_Se_loadSets_139 (by decide) ?_
          refine sx_sub [0, 2, 3, 4, 5, 6, 7] rfl ?_
          rw [st_up (M := M) (f := f) (by rw [cs_step hp h1b, hc]) ((b01_f (fun z => by obtain ⟨z1, z2, z3, z4⟩ := (mo_step hp h1b).mp z; rw [← hc] at z3; first | (have z5 := b01_t z1; omega) | omega | (rcases hb124 with ⟨y1, y2⟩ | ⟨y1, y2⟩; exact y2 z4; omega))).symm)]
          exact ih (b + 1) (by omega) (by omega)
        · refine sx_aload_n C 5 d_Se_loadSets_105 rfl rfl ?_
          refine sx_getr C f_Se_34 28 (by decide) rfl rfl d_Se_loadSets_106 ?_
          refine sx_iload C 0 d_Se_loadSets_109 rfl ?_
          refine sx_laload C (2 ^ p + b) (by decide) rfl rfl rfl (by omega) (by decide) d_Se_loadSets_111 ?_
          have hcs := cs_bd hT (f := f) (s := b) (n := 5) (by omega)
          have hcb : 0 ≤ c ∧ c ≤ 1000000 := by rw [hc]; unfold coS; have := hT.2.2.2.2.2.2.2.2.1 p hp; split <;> omega
          have hce := hT.2.2.1
          rw [sx_up_at]
          refine sx_aload_n C 6 d_Se_loadSets_112 rfl rfl ?_
          refine sx_getl C f_Se_96 (by decide) rfl d_Se_loadSets_113 ?_
          rw [sx_up_ne (by decide), stS_ne (by decide) (by decide)]
          refine sx_lcmp_gt C 134 ⟨by omega, by omega⟩ ⟨by omega, by omega⟩ d_Se_loadSets_116 d_Se_loadSets_117 (by decide) (fun c117 => ?_) (fun c117 => ?_)
          · refine sx_iconst C d_Se_loadSets_134 ?_
            refine sx_zastore C (2 ^ p + b) (by omega) (by decide) rfl rfl rfl (by omega) (by decide) d_Se_loadSets_135 ?_
            refine sx_iinc (lv' := [(7, sx_I (((b + 1 : Nat) : Int))), (8, sx_I (((2 ^ p + b : Nat) : Int))), (5, sx_J (c)), (4, sx_I (((2 ^ p : Nat) : Int))), (3, sx_I (((p : Nat) : Int))), (0, sx_A (17)), (1, sx_A (1)), (2, sx_I (f))]) C 1 d_Se_loadSets_136 rfl (by rw [hnL]; decide) rfl ?_
            refine sx_goto C 49 d_Se_loadSets_139 (by decide) ?_
            refine sx_sub [0, 2, 3, 4, 5, 6, 7] rfl ?_
            rw [st_up (M := M) (f := f) (by rw [cs_step hp h1b, hc]) ((b01_f (fun z => by obtain ⟨z1, z2, z3, z4⟩ := (mo_step hp h1b).mp z; rw [← hc] at z3; first | (have z5 := b01_t z1; omega) | omega | (rcases hb124 with ⟨y1, y2⟩ | ⟨y1, y2⟩; exact y2 z4; omega))).symm)]
            exact ih (b + 1) (by omega) (by omega)
          · refine sx_aload_n C 6 d_Se_loadSets_120 rfl rfl ?_
            refine sx_iload C 1 d_Se_loadSets_121 rfl ?_
            refine sx_iload_n C 4 d_Se_loadSets_123 rfl rfl ?_
            refine sx_callS (n := 71) (As := [sx_A (1), sx_I (((b : Nat) : Int)), sx_I (((p : Nat) : Int))]) (st := [sx_I (((2 ^ p + b : Nat) : Int)), sx_A (27)]) C (ct_Se_isAnyTooNear _ _ _ _ (tw_fr hlow hT) b p (by omega) hp) (cv_Se_99 E C _ (by rw [Rr.2.2]; decide)) (Nat.le_of_ble_eq_true rfl) d_Se_loadSets_124 (by rw [Rr.2.2]; decide) (by decide) rfl rfl rfl (fun r124 G124 M124 hpo _ => ?_)
            obtain ⟨e1, e2, b124, rfl, hb124⟩ := hpo
            rw [e1, e2]
            rw [nb_fr hlow] at hb124
            show sx_X SC E (0, 0) GL (sx_up (stS M f (2 ^ p + b)) 28 (2 ^ p + b) ((csS M f b 5) + c)) 127 [(8, sx_I (((2 ^ p + b : Nat) : Int))), (7, sx_I (((b : Nat) : Int))), (5, sx_J (c)), (4, sx_I (((2 ^ p : Nat) : Int))), (3, sx_I (((p : Nat) : Int))), (0, sx_A (17)), (1, sx_A (1)), (2, sx_I (f))] [sx_I (b124), sx_I (((2 ^ p + b : Nat) : Int)), sx_A (27)]
            refine sx_if_ne C 134 ⟨by omega, by omega⟩ d_Se_loadSets_127 (by decide) (fun c127 => ?_) (fun c127 => ?_)
            · refine sx_iconst C d_Se_loadSets_134 ?_
              refine sx_zastore C (2 ^ p + b) (by omega) (by decide) rfl rfl rfl (by omega) (by decide) d_Se_loadSets_135 ?_
              refine sx_iinc (lv' := [(7, sx_I (((b + 1 : Nat) : Int))), (8, sx_I (((2 ^ p + b : Nat) : Int))), (5, sx_J (c)), (4, sx_I (((2 ^ p : Nat) : Int))), (3, sx_I (((p : Nat) : Int))), (0, sx_A (17)), (1, sx_A (1)), (2, sx_I (f))]) C 1 d_Se_loadSets_136 rfl (by rw [hnL]; decide) rfl ?_
              refine sx_goto C 49 d_Se_loadSets_139 (by decide) ?_
              refine sx_sub [0, 2, 3, 4, 5, 6, 7] rfl ?_
              rw [st_up (M := M) (f := f) (by rw [cs_step hp h1b, hc]) ((b01_f (fun z => by obtain ⟨z1, z2, z3, z4⟩ := (mo_step hp h1b).mp z; rw [← hc] at z3; first | (have z5 := b01_t z1; omega) | omega | (rcases hb124 with ⟨y1, y2⟩ | ⟨y1, y2⟩; exact y2 z4; omega))).symm)]
              exact ih (b + 1) (by omega) (by omega)
            · refine sx_iconst C d_Se_loadSets_130 ?_
              refine sx_goto C 135 d_Se_loadSets_131 (by decide) ?_
              refine sx_zastore C (2 ^ p + b) (by omega) (by decide) rfl rfl rfl (by omega) (by decide) d_Se_loadSets_135 ?_
              refine sx_iinc (lv' := [(7, sx_I (((b + 1 : Nat) : Int))), (8, sx_I (((2 ^ p + b : Nat) : Int))), (5, sx_J (c)), (4, sx_I (((2 ^ p : Nat) : Int))), (3, sx_I (((p : Nat) : Int))), (0, sx_A (17)), (1, sx_A (1)), (2, sx_I (f))]) C 1 d_Se_loadSets_136 rfl (by rw [hnL]; decide) rfl ?_
              refine sx_goto C 49 d_Se_loadSets_139 (by decide) ?_
              refine sx_sub [0, 2, 3, 4, 5, 6, 7] rfl ?_
              rw [st_up (M := M) (f := f) (by rw [cs_step hp h1b, hc]) ((b01_t ((mo_step hp h1b).mpr ⟨b01_1.mp (by omega), by omega, by rw [← hc]; omega, by rcases hb124 with ⟨y1, y2⟩ | ⟨y1, y2⟩; omega; exact Classical.byContradiction y2⟩)).symm)]
              exact ih (b + 1) (by omega) (by omega)
set_option maxRecDepth 100000 in
set_option maxHeartbeats 4000000 in
theorem lp_Se_loadSets  (M : sx_M0) (hT : tw M) (h17 : 0 ≤ M 17 1 ∧ M 17 1 ≤ 5) (f : Int) (hf : -1 ≤ f ∧ f ≤ 4) {E : sx_E} (C : sx_C SC g_tbl "SiteChoice$Search" c_Se_loadSets E) (Rr : sx_Ret SC none (rmk 3 120) (fun r G' M' => G' = GL ∧ M' = stS M f (2 ^ (M 17 1).toNat) ∧ r = none) E) (hnL : sx_nL E = 9) : ∀ (nF : Nat) (p : Nat), (M 17 1).toNat - p < nF → p ≤ (M 17 1).toNat → sx_X SC E (0, 0) GL (stS M f (2 ^ p)) 16 [(3, sx_I (((p : Nat) : Int))), (0, sx_A (17)), (1, sx_A (1)), (2, sx_I (f))] [] := by
  intro nF
  induction nF with
  | zero => intro p h; omega
  | succ nF ih =>
    intro p hn h1
    refine sx_iload_n C 0 d_Se_loadSets_16 rfl rfl ?_
    refine sx_aload_n C 1 d_Se_loadSets_17 rfl rfl ?_
    refine sx_geti C f_Se_15 (by decide) rfl d_Se_loadSets_18 ?_
    rw [stS_ne (by decide) (by decide)]
    refine sx_icmp_ge C 148 ⟨by omega, by omega⟩ ⟨by omega, by omega⟩ d_Se_loadSets_21 (by decide) (fun c21 => ?_) (fun c21 => ?_)
    · refine sx_return C Rr rfl d_Se_loadSets_148 ?_
      exact ⟨rfl, by rw [show p = (M 17 1).toNat by omega], rfl⟩
    · refine sx_iconst C d_Se_loadSets_24 ?_
      refine sx_iload_n C 0 d_Se_loadSets_25 rfl rfl ?_
      refine sx_ishl C d_Se_loadSets_26 ?_
      rw [shl_bit p (by omega)]
      refine sx_istore (lv' := [(4, sx_I (((2 ^ p : Nat) : Int))), (3, sx_I (((p : Nat) : Int))), (0, sx_A (17)), (1, sx_A (1)), (2, sx_I (f))]) C d_Se_loadSets_27 (by rw [hnL]; decide) rfl ?_
      refine sx_iload_n C 1 d_Se_loadSets_29 rfl rfl ?_
      refine sx_iload_n C 4 d_Se_loadSets_30 rfl rfl ?_
      refine sx_icmp_ne C 38 ⟨by omega, by omega⟩ ⟨by omega, by omega⟩ d_Se_loadSets_31 (by decide) (fun c31 => ?_) (fun c31 => ?_)
      · refine sx_aload_n C 3 d_Se_loadSets_38 rfl rfl ?_
        refine sx_getr C f_Se_90 13 (by decide) rfl rfl d_Se_loadSets_39 ?_
        refine sx_iload_n C 1 d_Se_loadSets_42 rfl rfl ?_
        refine sx_laload C p (by decide) rfl rfl rfl (by omega) (by decide) d_Se_loadSets_43 ?_
        rw [stS_ne (by decide) (by decide)]
        refine sx_lstore (lv' := [(5, sx_J (M 13 p)), (4, sx_I (((2 ^ p : Nat) : Int))), (3, sx_I (((p : Nat) : Int))), (0, sx_A (17)), (1, sx_A (1)), (2, sx_I (f))]) C d_Se_loadSets_44 (by rw [hnL]; decide) rfl ?_
        refine sx_iconst C d_Se_loadSets_46 ?_
        refine sx_istore (lv' := [(7, sx_I (0)), (5, sx_J (M 13 p)), (4, sx_I (((2 ^ p : Nat) : Int))), (3, sx_I (((p : Nat) : Int))), (0, sx_A (17)), (1, sx_A (1)), (2, sx_I (f))]) C d_Se_loadSets_47 (by rw [hnL]; decide) rfl ?_
        refine sx_sub [0, 1, 2, 3, 4, 5, 6] rfl ?_
        refine lp2_Se_loadSets M hT f hf p (by omega) _ (by unfold coS; rw [if_neg (by omega)]) C Rr hnL ?_ _ 0 (Nat.lt_succ_self _) (Nat.zero_le _)
        refine sx_iinc (lv' := [(3, sx_I (((p + 1 : Nat) : Int))), (0, sx_A (17)), (1, sx_A (1)), (2, sx_I (f))]) C 0 d_Se_loadSets_142 rfl (by rw [hnL]; decide) rfl ?_
        refine sx_goto C 16 d_Se_loadSets_145 (by decide) ?_
        refine sx_sub [0, 1, 2, 3] rfl ?_
        exact ih (p + 1) (by omega) (by omega)
      · refine sx_lconst C 0 rfl d_Se_loadSets_34 ?_
        refine sx_goto C 44 d_Se_loadSets_35 (by decide) ?_
        refine sx_lstore (lv' := [(5, sx_J (0)), (4, sx_I (((2 ^ p : Nat) : Int))), (3, sx_I (((p : Nat) : Int))), (0, sx_A (17)), (1, sx_A (1)), (2, sx_I (f))]) C d_Se_loadSets_44 (by rw [hnL]; decide) rfl ?_
        refine sx_iconst C d_Se_loadSets_46 ?_
        refine sx_istore (lv' := [(7, sx_I (0)), (5, sx_J (0)), (4, sx_I (((2 ^ p : Nat) : Int))), (3, sx_I (((p : Nat) : Int))), (0, sx_A (17)), (1, sx_A (1)), (2, sx_I (f))]) C d_Se_loadSets_47 (by rw [hnL]; decide) rfl ?_
        refine sx_sub [0, 1, 2, 3, 4, 5, 6] rfl ?_
        refine lp2_Se_loadSets M hT f hf p (by omega) _ (by unfold coS; rw [if_pos (by omega)]) C Rr hnL ?_ _ 0 (Nat.lt_succ_self _) (Nat.zero_le _)
        refine sx_iinc (lv' := [(3, sx_I (((p + 1 : Nat) : Int))), (0, sx_A (17)), (1, sx_A (1)), (2, sx_I (f))]) C 0 d_Se_loadSets_142 rfl (by rw [hnL]; decide) rfl ?_
        refine sx_goto C 16 d_Se_loadSets_145 (by decide) ?_
        refine sx_sub [0, 1, 2, 3] rfl ?_
        exact ih (p + 1) (by omega) (by omega)
set_option maxRecDepth 100000 in
set_option maxHeartbeats 4000000 in
theorem ct_Se_loadSets (l : Launch) (D : va_G) (tc : Nat → ClassId) (M : sx_M0) (hT : tw M) (h17 : 0 ≤ M 17 1 ∧ M 17 1 ≤ 5) (f : Int) (hf : -1 ≤ f ∧ f ≤ 4) : sx_Met SC l D tc y_Se_loadSets w_Se_loadSets (rmk 3 120) [sx_A (17), sx_A (1), sx_I (f)] GL M (fun r G' M' => G' = GL ∧ M' = stS M f (2 ^ (M 17 1).toNat) ∧ r = none) := by
  refine sx_enter (by decide) rfl (Nat.le_of_ble_eq_true rfl) (Ts := g_tbl) (fun _ h => List.mem_cons_of_mem _ h) (fun E C Rr hnm hnL => ?_)
  refine sx_aload_n C 0 d_Se_loadSets_0 rfl rfl ?_
  refine sx_getr C f_Se_30 27 (by decide) rfl rfl d_Se_loadSets_1 ?_
  refine sx_iconst C d_Se_loadSets_4 ?_
  refine sx_iconst C d_Se_loadSets_5 ?_
  refine sx_zastore C 0 (by omega) (by decide) rfl rfl rfl (by omega) (by decide) d_Se_loadSets_6 ?_
  refine sx_aload_n C 0 d_Se_loadSets_7 rfl rfl ?_
  refine sx_getr C f_Se_34 28 (by decide) rfl rfl d_Se_loadSets_8 ?_
  refine sx_iconst C d_Se_loadSets_11 ?_
  refine sx_lconst C 0 rfl d_Se_loadSets_12 ?_
  refine sx_lastore C 0 (by decide) rfl rfl rfl (by omega) (by decide) d_Se_loadSets_13 ?_
  refine sx_iconst C d_Se_loadSets_14 ?_
  refine sx_istore_n (lv' := [(3, sx_I (0)), (0, sx_A (17)), (1, sx_A (1)), (2, sx_I (f))]) C d_Se_loadSets_15 rfl (by rw [hnL]; decide) rfl ?_
  refine sx_sub [0, 1, 2, 3] rfl ?_
  have h0 := lp_Se_loadSets M hT h17 f hf C Rr hnL _ 0 (Nat.lt_succ_self _) (Nat.zero_le _)
  rw [st_1 (f := f)]
  exact h0
