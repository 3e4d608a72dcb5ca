def mnS (M : sx_M0) (s n : Nat) : Prop := ∀ p, p < n → s.testBit p = true → M 16 p = 0 ∧ nbS M s p p
theorem cs_mono {M : sx_M0} (hT : tw M) {f : Int} {s n : Nat} (hn : n < 5) : csS M f s n ≤ csS M f s (n + 1) := by
  show csS M f s n ≤ csS M f s n + (if s.testBit n = true then (if (n : Int) = f then 0 else M 13 n) else 0)
  have := hT.2.2.2.2.2.2.2.2.1 n hn
  split
  · split <;> omega
  · omega
theorem mo_iff {M : sx_M0} (hT : tw M) {f : Int} {s : Nat} : ∀ {n : Nat}, n ≤ 5 → (moS M f s n ↔ mnS M s n ∧ csS M f s n ≤ M 1 2)
  | 0, _ => by
    have := hT.2.2.1
    exact ⟨fun _ => ⟨fun p hp => absurd hp (Nat.not_lt_zero p), this.1⟩, fun _ => trivial⟩
  | n + 1, h => by
    have ih := mo_iff hT (f := f) (s := s) (n := n) (by omega)
    have hm := cs_mono hT (f := f) (s := s) (n := n) (by omega)
    constructor
    · rintro ⟨h1, h2⟩
      have q := ih.mp h1
      refine ⟨fun p hp hb => ?_, ?_⟩
      · by_cases e : p = n
        · subst e
          exact ⟨(h2 hb).1, (h2 hb).2.2⟩
        · exact q.1 p (by omega) hb
      · by_cases hb : s.testBit n = true
        · exact (h2 hb).2.1
        · have e : csS M f s (n + 1) = csS M f s n := by
            show csS M f s n + (if s.testBit n = true then coS M f n else 0) = _
            rw [if_neg hb, Int.add_zero]
          rw [e]; exact q.2
    · rintro ⟨h1, h2⟩
      refine ⟨ih.mpr ⟨fun p hp hb => h1 p (by omega) hb, by omega⟩, fun hb => ?_⟩
      have q := h1 n (by omega) hb
      exact ⟨q.1, h2, q.2⟩
theorem hi_bit {P s q : Nat} (hs : s < 2 ^ P) (hq : P ≤ q) : s.testBit q = false := Nat.testBit_lt_two_pow (Nat.lt_of_lt_of_le hs (Nat.pow_le_pow_right (by decide) hq))
theorem mo_P {M : sx_M0} (hT : tw M) {f : Int} {s : Nat} (hs : s < 2 ^ (M 1 1).toNat) : moS M f s 5 ↔ mnS M s (M 1 1).toNat ∧ csS M f s (M 1 1).toNat ≤ M 1 2 := by
  have g1 := hT.2.1
  rw [mo_hi (p := (M 1 1).toNat) (by omega) (fun q h1 _ => hi_bit hs h1)]
  exact mo_iff hT (by omega)
theorem nr_mo {M : sx_M0} {p q : Nat} {a1 a2 b1 b2 n1 n2 N : Int} (ha1 : a1 = M 11 p) (ha2 : a2 = M 11 q) (hb1 : b1 = M 12 p) (hb2 : b2 = M 12 q) (hn1 : n1 = M 15 p) (hn2 : n2 = M 15 q) (hN : (n2 < n1 ∧ N = n1) ∨ (n1 ≤ n2 ∧ N = n2)) : nrS M q p ↔ (a1 - a2) * (a1 - a2) + (b1 - b2) * (b1 - b2) < N * N := by
  subst ha1 ha2 hb1 hb2 hn1 hn2
  have e1 : (M 11 q - M 11 p) * (M 11 q - M 11 p) = (M 11 p - M 11 q) * (M 11 p - M 11 q) := by rw [← Int.neg_mul_neg, Int.neg_sub]
  have e2 : (M 12 q - M 12 p) * (M 12 q - M 12 p) = (M 12 p - M 12 q) * (M 12 p - M 12 q) := by rw [← Int.neg_mul_neg, Int.neg_sub]
  have e3 : mxS (M 15 q) (M 15 p) = N := by
    unfold mxS
    split <;> omega
  unfold nrS
  rw [e1, e2, e3]
set_option maxRecDepth 100000 in
set_option maxHeartbeats 4000000 in
theorem lp2_Mo_mayBeOpen  (M : sx_M0) (hT : tw M) (hr : rT M) (s : Nat) (hs : s < 2 ^ (M 1 1).toNat) (f : Int) (hf : -1 ≤ f ∧ f ≤ 4) (p : Nat) (hp : p < (M 1 1).toNat) (hbp : s.testBit p = true) {E : sx_E} (C : sx_C SC g_tbl "SiteChoiceModel" c_Mo_mayBeOpen E) (Rr : sx_Ret SC (some .boolean) (rmk 1 40) (fun r G' M' => G' = GL ∧ M' = M ∧ bz (moS M f s 5) r) E) (hnL : sx_nL E = 11) (hk : ∀ _ : nbS M s p p, sx_X SC E (0, 0) GL M 195 [(5, sx_I (((p : Nat) : Int))), (3, sx_J (csS M f s (p + 1))), (0, sx_A (53)), (1, sx_I (((s : Nat) : Int))), (2, sx_I f)] []) : ∀ (nF : Nat) (q : Nat), p - q < nF → nbS M s p q → q ≤ p → sx_X SC E (0, 0) GL M 58 [(6, sx_I (((q : Nat) : Int))), (5, sx_I (((p : Nat) : Int))), (3, sx_J (csS M f s (p + 1))), (0, sx_A (53)), (1, sx_I (((s : Nat) : Int))), (2, sx_I (f))] [] := by
  intro nF
  induction nF with
  | zero => intro q h; omega
  | succ nF ih =>
    intro q hn h1 h2
    have g0 := hT.1
    have g1 := hT.2.1
    have r0 := hr.1
    have r1 := hr.2.1
    have hs32 := pow_6 (M 1 1).toNat (by omega)
    refine sx_iload C 0 d_Mo_mayBeOpen_58 rfl ?_
    refine sx_iload C 1 d_Mo_mayBeOpen_60 rfl ?_
    refine sx_icmp_ge C 195 ⟨by omega, by omega⟩ ⟨by omega, by omega⟩ d_Mo_mayBeOpen_62 (by decide) (fun c62 => ?_) (fun c62 => ?_)
    · refine sx_sub [1, 2, 3, 4, 5] rfl ?_
      exact hk (by rw [show q = p by omega] at h1; exact h1)
    · have x1 := hT.2.2.2.2.2.2.1 p (by omega)
      have x2 := hT.2.2.2.2.2.2.1 q (by omega)
      have y1 := hT.2.2.2.2.2.2.2.1 p (by omega)
      have y2 := hT.2.2.2.2.2.2.2.1 q (by omega)
      have l1 := hT.2.2.2.2.2.2.2.2.2.2.1 p (by omega)
      have l2 := hT.2.2.2.2.2.2.2.2.2.2.1 q (by omega)
      obtain ⟨ep1, ep2, ep3, ep4, ep5, ep6⟩ := hr.2.2.2.2.2.2 p (by omega)
      obtain ⟨eq1, eq2, eq3, eq4, eq5, eq6⟩ := hr.2.2.2.2.2.2 q (by omega)
      have s1 := sq_bd (u := M 56 p - M 56 q) (b := 2000) (by omega) (by omega)
      have s2 := sq_bd (u := M 57 p - M 57 q) (b := 2000) (by omega) (by omega)
      have s3 := sq_bd (u := M 60 p) (b := 3000) (by omega) (by omega)
      have s4 := sq_bd (u := M 60 q) (b := 3000) (by omega) (by omega)
      refine sx_aload_n C 3 d_Mo_mayBeOpen_65 rfl rfl ?_
      refine sx_getr C f_Mo_16 56 (by decide) rfl rfl d_Mo_mayBeOpen_66 ?_
      refine sx_iload C 1 d_Mo_mayBeOpen_69 rfl ?_
      refine sx_laload C p (by decide) rfl rfl rfl (by omega) (by decide) d_Mo_mayBeOpen_71 ?_
      refine sx_aload_n C 3 d_Mo_mayBeOpen_72 rfl rfl ?_
      refine sx_getr C f_Mo_16 56 (by decide) rfl rfl d_Mo_mayBeOpen_73 ?_
      refine sx_iload C 0 d_Mo_mayBeOpen_76 rfl ?_
      refine sx_laload C q (by decide) rfl rfl rfl (by omega) (by decide) d_Mo_mayBeOpen_78 ?_
      refine sx_lsub C d_Mo_mayBeOpen_79 ?_
      refine sx_aload_n C 3 d_Mo_mayBeOpen_80 rfl rfl ?_
      refine sx_getr C f_Mo_16 56 (by decide) rfl rfl d_Mo_mayBeOpen_81 ?_
      refine sx_iload C 1 d_Mo_mayBeOpen_84 rfl ?_
      refine sx_laload C p (by decide) rfl rfl rfl (by omega) (by decide) d_Mo_mayBeOpen_86 ?_
      refine sx_aload_n C 3 d_Mo_mayBeOpen_87 rfl rfl ?_
      refine sx_getr C f_Mo_16 56 (by decide) rfl rfl d_Mo_mayBeOpen_88 ?_
      refine sx_iload C 0 d_Mo_mayBeOpen_91 rfl ?_
      refine sx_laload C q (by decide) rfl rfl rfl (by omega) (by decide) d_Mo_mayBeOpen_93 ?_
      refine sx_lsub C d_Mo_mayBeOpen_94 ?_
      refine sx_lmul C d_Mo_mayBeOpen_95 ?_
      refine sx_aload_n C 3 d_Mo_mayBeOpen_96 rfl rfl ?_
      refine sx_getr C f_Mo_19 57 (by decide) rfl rfl d_Mo_mayBeOpen_97 ?_
      refine sx_iload C 1 d_Mo_mayBeOpen_100 rfl ?_
      refine sx_laload C p (by decide) rfl rfl rfl (by omega) (by decide) d_Mo_mayBeOpen_102 ?_
      refine sx_aload_n C 3 d_Mo_mayBeOpen_103 rfl rfl ?_
      refine sx_getr C f_Mo_19 57 (by decide) rfl rfl d_Mo_mayBeOpen_104 ?_
      refine sx_iload C 0 d_Mo_mayBeOpen_107 rfl ?_
      refine sx_laload C q (by decide) rfl rfl rfl (by omega) (by decide) d_Mo_mayBeOpen_109 ?_
      refine sx_lsub C d_Mo_mayBeOpen_110 ?_
      refine sx_aload_n C 3 d_Mo_mayBeOpen_111 rfl rfl ?_
      refine sx_getr C f_Mo_19 57 (by decide) rfl rfl d_Mo_mayBeOpen_112 ?_
      refine sx_iload C 1 d_Mo_mayBeOpen_115 rfl ?_
      refine sx_laload C p (by decide) rfl rfl rfl (by omega) (by decide) d_Mo_mayBeOpen_117 ?_
      refine sx_aload_n C 3 d_Mo_mayBeOpen_118 rfl rfl ?_
      refine sx_getr C f_Mo_19 57 (by decide) rfl rfl d_Mo_mayBeOpen_119 ?_
      refine sx_iload C 0 d_Mo_mayBeOpen_122 rfl ?_
      refine sx_laload C q (by decide) rfl rfl rfl (by omega) (by decide) d_Mo_mayBeOpen_124 ?_
      refine sx_lsub C d_Mo_mayBeOpen_125 ?_
      refine sx_lmul C d_Mo_mayBeOpen_126 ?_
      refine sx_ladd C d_Mo_mayBeOpen_127 ?_
      refine sx_lstore (lv' := [(7, sx_J ((((M 56 p) - (M 56 q)) * ((M 56 p) - (M 56 q))) + (((M 57 p) - (M 57 q)) * ((M 57 p) - (M 57 q))))), (6, sx_I (((q : Nat) : Int))), (5, sx_I (((p : Nat) : Int))), (3, sx_J (csS M f s (p + 1))), (0, sx_A (53)), (1, sx_I (((s : Nat) : Int))), (2, sx_I (f))]) C d_Mo_mayBeOpen_128 (by rw [hnL]; decide) rfl ?_
      refine sx_aload_n C 4 d_Mo_mayBeOpen_130 rfl rfl ?_
      refine sx_getr C f_Mo_28 60 (by decide) rfl rfl d_Mo_mayBeOpen_131 ?_
      refine sx_iload C 2 d_Mo_mayBeOpen_134 rfl ?_
      refine sx_laload C p (by decide) rfl rfl rfl (by omega) (by decide) d_Mo_mayBeOpen_136 ?_
      refine sx_aload_n C 4 d_Mo_mayBeOpen_137 rfl rfl ?_
      refine sx_getr C f_Mo_28 60 (by decide) rfl rfl d_Mo_mayBeOpen_138 ?_
      refine sx_iload C 1 d_Mo_mayBeOpen_141 rfl ?_
      refine sx_laload C q (by decide) rfl rfl rfl (by omega) (by decide) d_Mo_mayBeOpen_143 ?_
      refine sx_lcmp_le C 158 ⟨by omega, by omega⟩ ⟨by omega, by omega⟩ d_Mo_mayBeOpen_144 d_Mo_mayBeOpen_145 (by decide) (fun c145 => ?_) (fun c145 => ?_)
      · refine sx_aload_n C 4 d_Mo_mayBeOpen_158 rfl rfl ?_
        refine sx_getr C f_Mo_28 60 (by decide) rfl rfl d_Mo_mayBeOpen_159 ?_
        refine sx_iload C 1 d_Mo_mayBeOpen_162 rfl ?_
        refine sx_laload C q (by decide) rfl rfl rfl (by omega) (by decide) d_Mo_mayBeOpen_164 ?_
        refine sx_lstore (lv' := [(9, sx_J (M 60 q)), (7, sx_J ((((M 56 p) - (M 56 q)) * ((M 56 p) - (M 56 q))) + (((M 57 p) - (M 57 q)) * ((M 57 p) - (M 57 q))))), (6, sx_I (((q : Nat) : Int))), (5, sx_I (((p : Nat) : Int))), (3, sx_J (csS M f s (p + 1))), (0, sx_A (53)), (1, sx_I (((s : Nat) : Int))), (2, sx_I (f))]) C d_Mo_mayBeOpen_165 (by rw [hnL]; decide) rfl ?_
        refine sx_iload_n C 6 d_Mo_mayBeOpen_167 rfl rfl ?_
        refine sx_iload C 2 d_Mo_mayBeOpen_168 rfl ?_
        refine sx_callS (n := 71) (As := [sx_I (((s : Nat) : Int)), sx_I (((q : Nat) : Int))]) (st := []) C (ct_Mo_has _ _ _ M s q (by omega) (by omega)) (cv_Mo_105 E C _ (by rw [Rr.2.2]; decide)) (Nat.le_of_ble_eq_true rfl) d_Mo_mayBeOpen_170 (by rw [Rr.2.2]; decide) (by decide) rfl rfl rfl (fun r170 G170 M170 hpo _ => ?_)
        obtain ⟨e1, e2, b170, rfl, hb170⟩ := hpo
        rw [e1, e2]
        show sx_X SC E (0, 0) GL M 173 [(9, sx_J (M 60 q)), (7, sx_J ((((M 56 p) - (M 56 q)) * ((M 56 p) - (M 56 q))) + (((M 57 p) - (M 57 q)) * ((M 57 p) - (M 57 q))))), (6, sx_I (((q : Nat) : Int))), (5, sx_I (((p : Nat) : Int))), (3, sx_J (csS M f s (p + 1))), (0, sx_A (53)), (1, sx_I (((s : Nat) : Int))), (2, sx_I (f))] [sx_I (b170)]
        refine sx_if_eq C 189 ⟨by omega, by omega⟩ d_Mo_mayBeOpen_173 (by decide) (fun c173 => ?_) (fun c173 => ?_)
        · refine sx_iinc (lv' := [(6, sx_I (((q + 1 : Nat) : Int))), (9, sx_J (M 60 q)), (7, sx_J ((((M 56 p) - (M 56 q)) * ((M 56 p) - (M 56 q))) + (((M 57 p) - (M 57 q)) * ((M 57 p) - (M 57 q))))), (5, sx_I (((p : Nat) : Int))), (3, sx_J (csS M f s (p + 1))), (0, sx_A (53)), (1, sx_I (((s : Nat) : Int))), (2, sx_I (f))]) C 2 d_Mo_mayBeOpen_189 rfl (by rw [hnL]; decide) rfl ?_
          refine sx_goto C 58 d_Mo_mayBeOpen_192 (by decide) ?_
          refine sx_sub [0, 3, 4, 5, 6, 7] rfl ?_
          refine ih (q + 1) (by omega) ⟨h1, fun z => ?_⟩ (by omega)
          have hN := (nr_mo (p := p) (q := q) ep1 eq1 ep2 eq2 ep5 eq5 (N := M 60 q) (by omega)).mp z.2
          first | (rcases hb170 with ⟨z1, z2⟩ | ⟨z1, z2⟩; (exfalso; omega); exact z2 z.1) | omega
        · refine sx_lload C 1 d_Mo_mayBeOpen_176 rfl ?_
          refine sx_lload C 0 d_Mo_mayBeOpen_178 rfl ?_
          refine sx_lload C 0 d_Mo_mayBeOpen_180 rfl ?_
          refine sx_lmul C d_Mo_mayBeOpen_182 ?_
          refine sx_lcmp_ge C 189 ⟨by omega, by omega⟩ ⟨by omega, by omega⟩ d_Mo_mayBeOpen_183 d_Mo_mayBeOpen_184 (by decide) (fun c184 => ?_) (fun c184 => ?_)
          · refine sx_iinc (lv' := [(6, sx_I (((q + 1 : Nat) : Int))), (9, sx_J (M 60 q)), (7, sx_J ((((M 56 p) - (M 56 q)) * ((M 56 p) - (M 56 q))) + (((M 57 p) - (M 57 q)) * ((M 57 p) - (M 57 q))))), (5, sx_I (((p : Nat) : Int))), (3, sx_J (csS M f s (p + 1))), (0, sx_A (53)), (1, sx_I (((s : Nat) : Int))), (2, sx_I (f))]) C 2 d_Mo_mayBeOpen_189 rfl (by rw [hnL]; decide) rfl ?_
            refine sx_goto C 58 d_Mo_mayBeOpen_192 (by decide) ?_
            refine sx_sub [0, 3, 4, 5, 6, 7] rfl ?_
            refine ih (q + 1) (by omega) ⟨h1, fun z => ?_⟩ (by omega)
            have hN := (nr_mo (p := p) (q := q) ep1 eq1 ep2 eq2 ep5 eq5 (N := M 60 q) (by omega)).mp z.2
            first | (rcases hb170 with ⟨z1, z2⟩ | ⟨z1, z2⟩; (exfalso; omega); exact z2 z.1) | omega
          · refine sx_iconst C d_Mo_mayBeOpen_187 ?_
            refine sx_zreturn C Rr (by omega) rfl d_Mo_mayBeOpen_188 ?_
            refine ⟨rfl, rfl, 0, rfl, Or.inr ⟨rfl, fun z => ?_⟩⟩
            have hN := (nr_mo (p := p) (q := q) ep1 eq1 ep2 eq2 ep5 eq5 (N := M 60 q) (by omega)).mpr (by omega)
            rcases hb170 with ⟨z1, z2⟩ | ⟨z1, z2⟩
            · exact nb_at (n := p) (q := q) (by omega) ((((mo_P hT hs).mp z).1 p (by omega) hbp).2) ⟨z2, hN⟩
            · omega
      · refine sx_aload_n C 4 d_Mo_mayBeOpen_148 rfl rfl ?_
        refine sx_getr C f_Mo_28 60 (by decide) rfl rfl d_Mo_mayBeOpen_149 ?_
        refine sx_iload C 2 d_Mo_mayBeOpen_152 rfl ?_
        refine sx_laload C p (by decide) rfl rfl rfl (by omega) (by decide) d_Mo_mayBeOpen_154 ?_
        refine sx_goto C 165 d_Mo_mayBeOpen_155 (by decide) ?_
        refine sx_lstore (lv' := [(9, sx_J (M 60 p)), (7, sx_J ((((M 56 p) - (M 56 q)) * ((M 56 p) - (M 56 q))) + (((M 57 p) - (M 57 q)) * ((M 57 p) - (M 57 q))))), (6, sx_I (((q : Nat) : Int))), (5, sx_I (((p : Nat) : Int))), (3, sx_J (csS M f s (p + 1))), (0, sx_A (53)), (1, sx_I (((s : Nat) : Int))), (2, sx_I (f))]) C d_Mo_mayBeOpen_165 (by rw [hnL]; decide) rfl ?_
        refine sx_iload_n C 6 d_Mo_mayBeOpen_167 rfl rfl ?_
        refine sx_iload C 2 d_Mo_mayBeOpen_168 rfl ?_
        refine sx_callS (n := 71) (As := [sx_I (((s : Nat) : Int)), sx_I (((q : Nat) : Int))]) (st := []) C (ct_Mo_has _ _ _ M s q (by omega) (by omega)) (cv_Mo_105 E C _ (by rw [Rr.2.2]; decide)) (Nat.le_of_ble_eq_true rfl) d_Mo_mayBeOpen_170 (by rw [Rr.2.2]; decide) (by decide) rfl rfl rfl (fun r170 G170 M170 hpo _ => ?_)
        obtain ⟨e1, e2, b170, rfl, hb170⟩ := hpo
        rw [e1, e2]
        show sx_X SC E (0, 0) GL M 173 [(9, sx_J (M 60 p)), (7, sx_J ((((M 56 p) - (M 56 q)) * ((M 56 p) - (M 56 q))) + (((M 57 p) - (M 57 q)) * ((M 57 p) - (M 57 q))))), (6, sx_I (((q : Nat) : Int))), (5, sx_I (((p : Nat) : Int))), (3, sx_J (csS M f s (p + 1))), (0, sx_A (53)), (1, sx_I (((s : Nat) : Int))), (2, sx_I (f))] [sx_I (b170)]
        refine sx_if_eq C 189 ⟨by omega, by omega⟩ d_Mo_mayBeOpen_173 (by decide) (fun c173 => ?_) (fun c173 => ?_)
        · refine sx_iinc (lv' := [(6, sx_I (((q + 1 : Nat) : Int))), (9, sx_J (M 60 p)), (7, sx_J ((((M 56 p) - (M 56 q)) * ((M 56 p) - (M 56 q))) + (((M 57 p) - (M 57 q)) * ((M 57 p) - (M 57 q))))), (5, sx_I (((p : Nat) : Int))), (3, sx_J (csS M f s (p + 1))), (0, sx_A (53)), (1, sx_I (((s : Nat) : Int))), (2, sx_I (f))]) C 2 d_Mo_mayBeOpen_189 rfl (by rw [hnL]; decide) rfl ?_
          refine sx_goto C 58 d_Mo_mayBeOpen_192 (by decide) ?_
          refine sx_sub [0, 3, 4, 5, 6, 7] rfl ?_
          refine ih (q + 1) (by omega) ⟨h1, fun z => ?_⟩ (by omega)
          have hN := (nr_mo (p := p) (q := q) ep1 eq1 ep2 eq2 ep5 eq5 (N := M 60 p) (by omega)).mp z.2
          first | (rcases hb170 with ⟨z1, z2⟩ | ⟨z1, z2⟩; (exfalso; omega); exact z2 z.1) | omega
        · refine sx_lload C 1 d_Mo_mayBeOpen_176 rfl ?_
          refine sx_lload C 0 d_Mo_mayBeOpen_178 rfl ?_
          refine sx_lload C 0 d_Mo_mayBeOpen_180 rfl ?_
          refine sx_lmul C d_Mo_mayBeOpen_182 ?_
          refine sx_lcmp_ge C 189 ⟨by omega, by omega⟩ ⟨by omega, by omega⟩ d_Mo_mayBeOpen_183 d_Mo_mayBeOpen_184 (by decide) (fun c184 => ?_) (fun c184 => ?_)
          · refine sx_iinc (lv' := [(6, sx_I (((q + 1 : Nat) : Int))), (9, sx_J (M 60 p)), (7, sx_J ((((M 56 p) - (M 56 q)) * ((M 56 p) - (M 56 q))) + (((M 57 p) - (M 57 q)) * ((M 57 p) - (M 57 q))))), (5, sx_I (((p : Nat) : Int))), (3, sx_J (csS M f s (p + 1))), (0, sx_A (53)), (1, sx_I (((s : Nat) : Int))), (2, sx_I (f))]) C 2 d_Mo_mayBeOpen_189 rfl (by rw [hnL]; decide) rfl ?_
            refine sx_goto C 58 d_Mo_mayBeOpen_192 (by decide) ?_
            refine sx_sub [0, 3, 4, 5, 6, 7] rfl ?_
            refine ih (q + 1) (by omega) ⟨h1, fun z => ?_⟩ (by omega)
            have hN := (nr_mo (p := p) (q := q) ep1 eq1 ep2 eq2 ep5 eq5 (N := M 60 p) (by omega)).mp z.2
            first | (rcases hb170 with ⟨z1, z2⟩ | ⟨z1, z2⟩; (exfalso; omega); exact z2 z.1) | omega
          · refine sx_iconst C d_Mo_mayBeOpen_187 ?_
            refine sx_zreturn C Rr (by omega) rfl d_Mo_mayBeOpen_188 ?_
            refine ⟨rfl, rfl, 0, rfl, Or.inr ⟨rfl, fun z => ?_⟩⟩
            have hN := (nr_mo (p := p) (q := q) ep1 eq1 ep2 eq2 ep5 eq5 (N := M 60 p) (by omega)).mpr (by omega)
            rcases hb170 with ⟨z1, z2⟩ | ⟨z1, z2⟩
            · exact nb_at (n := p) (q := q) (by omega) ((((mo_P hT hs).mp z).1 p (by omega) hbp).2) ⟨z2, hN⟩
            · omega
set_option maxRecDepth 100000 in
set_option maxHeartbeats 4000000 in
theorem lp_Mo_mayBeOpen  (M : sx_M0) (hT : tw M) (hr : rT M) (s : Nat) (hs : s < 2 ^ (M 1 1).toNat) (f : Int) (hf : -1 ≤ f ∧ f ≤ 4) {E : sx_E} (C : sx_C SC g_tbl "SiteChoiceModel" c_Mo_mayBeOpen E) (Rr : sx_Ret SC (some .boolean) (rmk 1 40) (fun r G' M' => G' = GL ∧ M' = M ∧ bz (moS M f s 5) r) E) (hnL : sx_nL E = 11) : ∀ (nF : Nat) (p : Nat), (M 1 1).toNat - p < nF → mnS M s p → p ≤ (M 1 1).toNat → sx_X SC E (0, 0) GL M 5 [(5, sx_I (((p : Nat) : Int))), (3, sx_J (csS M f s p)), (0, sx_A (53)), (1, sx_I (((s : Nat) : Int))), (2, sx_I (f))] [] := by
  intro nF
  induction nF with
  | zero => intro p h; omega
  | succ nF ih =>
    intro p hn h1 h2
    have g0 := hT.1
    have g1 := hT.2.1
    have r0 := hr.1
    have r1 := hr.2.1
    have hs32 := pow_6 (M 1 1).toNat (by omega)
    have rb := hr.2.2.1
    have gb := hT.2.2.1
    have gc := cs_bd (n := p) hT (f := f) (s := s) (by omega)
    refine sx_iload C 0 d_Mo_mayBeOpen_5 rfl ?_
    refine sx_aload_n C 2 d_Mo_mayBeOpen_7 rfl rfl ?_
    refine sx_geti C f_Mo_77 (by decide) rfl d_Mo_mayBeOpen_8 ?_
    refine sx_icmp_ge C 201 ⟨by omega, by omega⟩ ⟨by omega, by omega⟩ d_Mo_mayBeOpen_11 (by decide) (fun c11 => ?_) (fun c11 => ?_)
    · refine sx_lload_n C 1 d_Mo_mayBeOpen_201 rfl rfl ?_
      refine sx_aload_n C 2 d_Mo_mayBeOpen_202 rfl rfl ?_
      refine sx_getl C f_Mo_40 (by decide) rfl d_Mo_mayBeOpen_203 ?_
      refine sx_lcmp_gt C 214 ⟨by omega, by omega⟩ ⟨by omega, by omega⟩ d_Mo_mayBeOpen_206 d_Mo_mayBeOpen_207 (by decide) (fun c207 => ?_) (fun c207 => ?_)
      · refine sx_iconst C d_Mo_mayBeOpen_214 ?_
        refine sx_zreturn C Rr (by omega) rfl d_Mo_mayBeOpen_215 ?_
        refine ⟨rfl, rfl, 0, rfl, Or.inr ⟨rfl, fun z => ?_⟩⟩
        have := ((mo_P hT hs).mp z).2
        rw [show (M 1 1).toNat = p by omega] at this
        omega
      · refine sx_iconst C d_Mo_mayBeOpen_210 ?_
        refine sx_goto C 215 d_Mo_mayBeOpen_211 (by decide) ?_
        refine sx_zreturn C Rr (by omega) rfl d_Mo_mayBeOpen_215 ?_
        exact ⟨rfl, rfl, 1, rfl, Or.inl ⟨rfl, (mo_P hT hs).mpr ⟨by rw [show (M 1 1).toNat = p by omega]; exact h1, by rw [show (M 1 1).toNat = p by omega]; omega⟩⟩⟩
    · refine sx_iload_n C 3 d_Mo_mayBeOpen_14 rfl rfl ?_
      refine sx_iload C 0 d_Mo_mayBeOpen_15 rfl ?_
      refine sx_callS (n := 71) (As := [sx_I (((s : Nat) : Int)), sx_I (((p : Nat) : Int))]) (st := []) C (ct_Mo_has _ _ _ M s p (by omega) (by omega)) (cv_Mo_105 E C _ (by rw [Rr.2.2]; decide)) (Nat.le_of_ble_eq_true rfl) d_Mo_mayBeOpen_17 (by rw [Rr.2.2]; decide) (by decide) rfl rfl rfl (fun r17 G17 M17 hpo _ => ?_)
      obtain ⟨e1, e2, b17, rfl, hb17⟩ := hpo
      rw [e1, e2]
      show sx_X SC E (0, 0) GL M 20 [(5, sx_I (((p : Nat) : Int))), (3, sx_J (csS M f s p)), (0, sx_A (53)), (1, sx_I (((s : Nat) : Int))), (2, sx_I (f))] [sx_I (b17)]
      refine sx_if_eq C 195 ⟨by omega, by omega⟩ d_Mo_mayBeOpen_20 (by decide) (fun c20 => ?_) (fun c20 => ?_)
      · refine sx_iinc (lv' := [(5, sx_I (((p + 1 : Nat) : Int))), (3, sx_J (csS M f s p)), (0, sx_A (53)), (1, sx_I (((s : Nat) : Int))), (2, sx_I (f))]) C 0 d_Mo_mayBeOpen_195 rfl (by rw [hnL]; decide) rfl ?_
        refine sx_goto C 5 d_Mo_mayBeOpen_198 (by decide) ?_
        rw [show csS M f s p = csS M f s (p + 1) from by show _ = csS M f s p + (if s.testBit p = true then coS M f p else 0); rw [if_neg (by rcases hb17 with ⟨z1, z2⟩ | ⟨z1, z2⟩; (exfalso; omega); exact z2), Int.add_zero]]
        refine sx_sub [0, 1, 2, 3, 4] rfl ?_
        exact ih (p + 1) (by omega) (fun e he hb => by rcases Nat.lt_or_ge e p with y | y; exact h1 e y hb; rw [show e = p by omega] at hb; (rcases hb17 with ⟨z1, z2⟩ | ⟨z1, z2⟩; (exfalso; omega); exact absurd hb z2)) (by omega)
      · have hbp : s.testBit p = true := by rcases hb17 with ⟨z1, z2⟩ | ⟨z1, z2⟩; (exact z2); (exfalso; omega)
        obtain ⟨ep1, ep2, ep3, ep4, ep5, ep6⟩ := hr.2.2.2.2.2.2 p (by omega)
        have eb := hT.2.2.2.2.2.2.2.2.2.2.2 p (by omega)
        refine sx_lload_n C 1 d_Mo_mayBeOpen_23 rfl rfl ?_
        refine sx_iload C 0 d_Mo_mayBeOpen_24 rfl ?_
        refine sx_iload_n C 4 d_Mo_mayBeOpen_26 rfl rfl ?_
        refine sx_icmp_ne C 34 ⟨by omega, by omega⟩ ⟨by omega, by omega⟩ d_Mo_mayBeOpen_27 (by decide) (fun c27 => ?_) (fun c27 => ?_)
        · refine sx_aload_n C 2 d_Mo_mayBeOpen_34 rfl rfl ?_
          refine sx_getr C f_Mo_22 58 (by decide) rfl rfl d_Mo_mayBeOpen_35 ?_
          refine sx_iload C 0 d_Mo_mayBeOpen_38 rfl ?_
          refine sx_laload C p (by decide) rfl rfl rfl (by omega) (by decide) d_Mo_mayBeOpen_40 ?_
          refine sx_ladd C d_Mo_mayBeOpen_41 ?_
          rw [show (csS M f s p) + (M 58 p) = csS M f s (p + 1) from by show _ = csS M f s p + (if s.testBit p = true then (if (p : Int) = f then 0 else M 13 p) else 0); rw [if_pos hbp]; split <;> omega]
          refine sx_lstore_n (lv' := [(3, sx_J (csS M f s (p + 1))), (5, sx_I (((p : Nat) : Int))), (0, sx_A (53)), (1, sx_I (((s : Nat) : Int))), (2, sx_I (f))]) C d_Mo_mayBeOpen_42 rfl (by rw [hnL]; decide) rfl ?_
          refine sx_aload_n C 2 d_Mo_mayBeOpen_43 rfl rfl ?_
          refine sx_getr C f_Mo_31 61 (by decide) rfl rfl d_Mo_mayBeOpen_44 ?_
          refine sx_iload C 1 d_Mo_mayBeOpen_47 rfl ?_
          refine sx_zaload C p (by decide) rfl rfl rfl (by omega) (by decide) d_Mo_mayBeOpen_49 ?_
          refine sx_if_eq C 55 ⟨by omega, by omega⟩ d_Mo_mayBeOpen_50 (by decide) (fun c50 => ?_) (fun c50 => ?_)
          · refine sx_iconst C d_Mo_mayBeOpen_55 ?_
            refine sx_istore (lv' := [(6, sx_I (0)), (3, sx_J (csS M f s (p + 1))), (5, sx_I (((p : Nat) : Int))), (0, sx_A (53)), (1, sx_I (((s : Nat) : Int))), (2, sx_I (f))]) C d_Mo_mayBeOpen_56 (by rw [hnL]; decide) rfl ?_
            refine sx_sub [0, 2, 1, 3, 4, 5] rfl ?_
            refine lp2_Mo_mayBeOpen M hT hr s hs f hf p (by omega) hbp C Rr hnL (fun hx2 => ?_) _ 0 (Nat.lt_succ_self _) trivial (Nat.zero_le _)
            refine sx_iinc (lv' := [(5, sx_I (((p + 1 : Nat) : Int))), (3, sx_J (csS M f s (p + 1))), (0, sx_A (53)), (1, sx_I (((s : Nat) : Int))), (2, sx_I (f))]) C 0 d_Mo_mayBeOpen_195 rfl (by rw [hnL]; decide) rfl ?_
            refine sx_goto C 5 d_Mo_mayBeOpen_198 (by decide) ?_
            refine sx_sub [0, 1, 2, 3, 4] rfl ?_
            exact ih (p + 1) (by omega) (fun e he hb => by rcases Nat.lt_or_ge e p with y | y; exact h1 e y hb; rw [show e = p by omega]; exact ⟨by omega, hx2⟩) (by omega)
          · refine sx_iconst C d_Mo_mayBeOpen_53 ?_
            refine sx_zreturn C Rr (by omega) rfl d_Mo_mayBeOpen_54 ?_
            refine ⟨rfl, rfl, 0, rfl, Or.inr ⟨rfl, fun z => ?_⟩⟩
            have := (((mo_P hT hs).mp z).1 p (by omega) hbp).1
            omega
        · refine sx_lconst C 0 rfl d_Mo_mayBeOpen_30 ?_
          refine sx_goto C 41 d_Mo_mayBeOpen_31 (by decide) ?_
          refine sx_ladd C d_Mo_mayBeOpen_41 ?_
          rw [show (csS M f s p) + 0 = csS M f s (p + 1) from by show _ = csS M f s p + (if s.testBit p = true then (if (p : Int) = f then 0 else M 13 p) else 0); rw [if_pos hbp]; split <;> omega]
          refine sx_lstore_n (lv' := [(3, sx_J (csS M f s (p + 1))), (5, sx_I (((p : Nat) : Int))), (0, sx_A (53)), (1, sx_I (((s : Nat) : Int))), (2, sx_I (f))]) C d_Mo_mayBeOpen_42 rfl (by rw [hnL]; decide) rfl ?_
          refine sx_aload_n C 2 d_Mo_mayBeOpen_43 rfl rfl ?_
          refine sx_getr C f_Mo_31 61 (by decide) rfl rfl d_Mo_mayBeOpen_44 ?_
          refine sx_iload C 1 d_Mo_mayBeOpen_47 rfl ?_
          refine sx_zaload C p (by decide) rfl rfl rfl (by omega) (by decide) d_Mo_mayBeOpen_49 ?_
          refine sx_if_eq C 55 ⟨by omega, by omega⟩ d_Mo_mayBeOpen_50 (by decide) (fun c50 => ?_) (fun c50 => ?_)
          · refine sx_iconst C d_Mo_mayBeOpen_55 ?_
            refine sx_istore (lv' := [(6, sx_I (0)), (3, sx_J (csS M f s (p + 1))), (5, sx_I (((p : Nat) : Int))), (0, sx_A (53)), (1, sx_I (((s : Nat) : Int))), (2, sx_I (f))]) C d_Mo_mayBeOpen_56 (by rw [hnL]; decide) rfl ?_
            refine sx_sub [0, 2, 1, 3, 4, 5] rfl ?_
            refine lp2_Mo_mayBeOpen M hT hr s hs f hf p (by omega) hbp C Rr hnL (fun hx2 => ?_) _ 0 (Nat.lt_succ_self _) trivial (Nat.zero_le _)
            refine sx_iinc (lv' := [(5, sx_I (((p + 1 : Nat) : Int))), (3, sx_J (csS M f s (p + 1))), (0, sx_A (53)), (1, sx_I (((s : Nat) : Int))), (2, sx_I (f))]) C 0 d_Mo_mayBeOpen_195 rfl (by rw [hnL]; decide) rfl ?_
            refine sx_goto C 5 d_Mo_mayBeOpen_198 (by decide) ?_
            refine sx_sub [0, 1, 2, 3, 4] rfl ?_
            exact ih (p + 1) (by omega) (fun e he hb => by rcases Nat.lt_or_ge e p with y | y; exact h1 e y hb; rw [show e = p by omega]; exact ⟨by omega, hx2⟩) (by omega)
          · refine sx_iconst C d_Mo_mayBeOpen_53 ?_
            refine sx_zreturn C Rr (by omega) rfl d_Mo_mayBeOpen_54 ?_
            refine ⟨rfl, rfl, 0, rfl, Or.inr ⟨rfl, fun z => ?_⟩⟩
            have := (((mo_P hT hs).mp z).1 p (by omega) hbp).1
            omega
set_option maxRecDepth 100000 in
set_option maxHeartbeats 4000000 in
theorem ct_Mo_mayBeOpen (l : Launch) (D : va_G) (tc : Nat → ClassId) (M : sx_M0) (hT : tw M) (hr : rT M) (s : Nat) (hs : s < 2 ^ (M 1 1).toNat) (f : Int) (hf : -1 ≤ f ∧ f ≤ 4) : sx_Met SC l D tc y_Mo_mayBeOpen w_Mo_mayBeOpen (rmk 1 40) [sx_A (53), sx_I (((s : Nat) : Int)), sx_I (f)] GL M (fun r G' M' => G' = GL ∧ M' = M ∧ bz (moS M f s 5) r) := by
  refine sx_enter (by decide) rfl (Nat.le_of_ble_eq_true rfl) (Ts := g_tbl) (fun _ h => List.mem_cons_of_mem _ h) (fun E C Rr hnm hnL => ?_)
  refine sx_lconst C 0 rfl d_Mo_mayBeOpen_0 ?_
  refine sx_lstore_n (lv' := [(3, sx_J (0)), (0, sx_A (53)), (1, sx_I (((s : Nat) : Int))), (2, sx_I (f))]) C d_Mo_mayBeOpen_1 rfl (by rw [hnL]; decide) rfl ?_
  refine sx_iconst C d_Mo_mayBeOpen_2 ?_
  refine sx_istore (lv' := [(5, sx_I (0)), (3, sx_J (0)), (0, sx_A (53)), (1, sx_I (((s : Nat) : Int))), (2, sx_I (f))]) C d_Mo_mayBeOpen_3 (by rw [hnL]; decide) rfl ?_
  refine sx_sub [0, 1, 2, 3, 4] rfl ?_
  exact lp_Mo_mayBeOpen M hT hr s hs f hf C Rr hnL _ 0 (Nat.lt_succ_self _) (fun e he => absurd he (Nat.not_lt_zero e)) (Nat.zero_le _)
def ldF (ak g : Nat → Int) (p : Nat) : Nat → Int
  | 0 => 0
  | d + 1 => ldF ak g p d + (if g d = (p : Int) then ak d else 0)
theorem ld_bd {ak g : Nat → Int} {p : Nat} (hA : ∀ d, d < 6 → 0 ≤ ak d ∧ ak d ≤ 150) : ∀ {n : Nat}, n ≤ 6 → 0 ≤ ldF ak g p n ∧ ldF ak g p n ≤ 150 * (n : Int)
  | 0, _ => by simp [ldF]
  | n + 1, h => by
    have q := ld_bd (p := p) (g := g) hA (n := n) (by omega)
    have q2 := hA n (by omega)
    show 0 ≤ ldF ak g p n + (if g n = (p : Int) then ak n else 0) ∧ ldF ak g p n + (if g n = (p : Int) then ak n else 0) ≤ _
    split <;> omega
/-- of place p: who is given it can go there, and it has room for them (place f has room for all) -/
def ftP (M : sx_M0) (ak g : Nat → Int) (f : Int) (p : Nat) : Prop := (∀ d : Nat, d < (M 1 0).toNat → g d = (p : Int) → cgS M d p) ∧ ((p : Int) ≠ f → ldF ak g p (M 1 0).toNat ≤ M 14 p)
/-- a plan, as the reference has it -/
def FP (M : sx_M0) (ak g : Nat → Int) (f : Int) : Prop := (∀ d : Nat, d < (M 1 0).toNat → (0 < ak d ↔ 0 ≤ g d)) ∧ (∀ p : Nat, p < (M 1 1).toNat → ftP M ak g f p) ∧ moS M f (psF g (M 1 0).toNat) 5
set_option maxRecDepth 100000 in
set_option maxHeartbeats 4000000 in
theorem lp2_Mo_fits  (M : sx_M0) (hT : tw M) (hr : rT M) (hA : ∀ d, d < 6 → 0 ≤ M 66 d ∧ M 66 d ≤ 150) (c : Nat) (hc : c < GL.1) (hcs : GL.2.1 c = (1, 6)) (hg : ∀ d, d < (M 1 0).toNat → -1 ≤ M c d ∧ M c d ≤ 4) (f : Int) (hf : -1 ≤ f ∧ f ≤ 4) (p : Nat) (hp : p < (M 1 1).toNat) {E : sx_E} (C : sx_C SC g_tbl "SiteChoiceModel" c_Mo_fits E) (Rr : sx_Ret SC (some .boolean) (rmk 1 40) (fun r G' M' => G' = GL ∧ M' = M ∧ bz (∀ p : Nat, p < (M 1 1).toNat → ftP M (M 66) (M c) f p) r) E) (hnL : sx_nL E = 7) (hk : ∀ _ : (∀ e : Nat, e < (M 1 0).toNat → M c e = (p : Int) → cgS M e p), sx_X SC E (0, 0) GL M 63 [(4, sx_J (ldF (M 66) (M c) p (M 1 0).toNat)), (3, sx_I (((p : Nat) : Int))), (0, sx_A (53)), (1, sx_A (c)), (2, sx_I f)] []) : ∀ (nF : Nat) (d : Nat), (M 1 0).toNat - d < nF → (∀ e : Nat, e < d → M c e = (p : Int) → cgS M e p) → d ≤ (M 1 0).toNat → sx_X SC E (0, 0) GL M 16 [(6, sx_I (((d : Nat) : Int))), (4, sx_J (ldF (M 66) (M c) p d)), (3, sx_I (((p : Nat) : Int))), (0, sx_A (53)), (1, sx_A (c)), (2, sx_I (f))] [] := by
  intro nF
  induction nF with
  | zero => intro d h; omega
  | succ nF ih =>
    intro d hn h1 h2
    have g0 := hT.1
    have g1 := hT.2.1
    have r0 := hr.1
    have r1 := hr.2.1
    refine sx_iload C 0 d_Mo_fits_16 rfl ?_
    refine sx_aload_n C 3 d_Mo_fits_18 rfl rfl ?_
    refine sx_geti C f_Mo_73 (by decide) rfl d_Mo_fits_19 ?_
    refine sx_icmp_ge C 63 ⟨by omega, by omega⟩ ⟨by omega, by omega⟩ d_Mo_fits_22 (by decide) (fun c22 => ?_) (fun c22 => ?_)
    · refine sx_sub [1, 2, 3, 4, 5] rfl ?_
      have ed : d = (M 1 0).toNat := by omega
      rw [ed] at h1 ⊢
      exact hk h1
    · have q1 := hg d (by omega)
      have q2 := hA d (by omega)
      refine sx_aload_n C 4 d_Mo_fits_25 rfl rfl ?_
      refine sx_iload C 0 d_Mo_fits_26 rfl ?_
      refine sx_iaload C d hc hcs rfl rfl (by omega) (by decide) d_Mo_fits_28 ?_
      refine sx_iload_n C 2 d_Mo_fits_29 rfl rfl ?_
      refine sx_icmp_ne C 57 ⟨by omega, by omega⟩ ⟨by omega, by omega⟩ d_Mo_fits_30 (by decide) (fun c30 => ?_) (fun c30 => ?_)
      · refine sx_iinc (lv' := [(6, sx_I (((d + 1 : Nat) : Int))), (4, sx_J (ldF (M 66) (M c) p d)), (3, sx_I (((p : Nat) : Int))), (0, sx_A (53)), (1, sx_A (c)), (2, sx_I (f))]) C 0 d_Mo_fits_57 rfl (by rw [hnL]; decide) rfl ?_
        refine sx_goto C 16 d_Mo_fits_60 (by decide) ?_
        rw [show ldF (M 66) (M c) p d = ldF (M 66) (M c) p (d + 1) from by show _ = ldF (M 66) (M c) p d + (if M c d = (p : Int) then M 66 d else 0); rw [if_neg (by omega), Int.add_zero]]
        refine sx_sub [0, 1, 2, 3, 4, 5] rfl ?_
        exact ih (d + 1) (by omega) (fun e he hp2 => by rcases Nat.lt_or_ge e d with y | y; exact h1 e y hp2; rw [show e = d by omega] at hp2; omega) (by omega)
      · refine sx_lload C 1 d_Mo_fits_33 rfl ?_
        refine sx_aload_n C 3 d_Mo_fits_35 rfl rfl ?_
        refine sx_getr C f_Mo_54 66 (by decide) rfl rfl d_Mo_fits_36 ?_
        refine sx_iload C 0 d_Mo_fits_39 rfl ?_
        refine sx_laload C d (by decide) rfl rfl rfl (by omega) (by decide) d_Mo_fits_41 ?_
        refine sx_ladd C d_Mo_fits_42 ?_
        refine sx_lstore (lv' := [(4, sx_J ((ldF (M 66) (M c) p d) + (M 66 d))), (6, sx_I (((d : Nat) : Int))), (3, sx_I (((p : Nat) : Int))), (0, sx_A (53)), (1, sx_A (c)), (2, sx_I (f))]) C d_Mo_fits_43 (by rw [hnL]; decide) rfl ?_
        refine sx_aload_n C 3 d_Mo_fits_45 rfl rfl ?_
        refine sx_iload C 1 d_Mo_fits_46 rfl ?_
        refine sx_iload_n C 2 d_Mo_fits_48 rfl rfl ?_
        refine sx_callV (n := 71) (As := [sx_I (((d : Nat) : Int)), sx_I (((p : Nat) : Int))]) (st := []) C (ct_Mo_canGo _ _ _ M hT hr d p (by omega) (by omega)) rfl (by decide) rfl (cv_Mo_111 E C _ (by rw [Rr.2.2]; decide)) (Nat.le_of_ble_eq_true rfl) d_Mo_fits_49 (by rw [Rr.2.2]; decide) (by decide) (by simp [sx_ok]; omega) rfl rfl (fun r49 G49 M49 hpo _ => ?_)
        obtain ⟨e1, e2, b49, rfl, hb49⟩ := hpo
        rw [e1, e2]
        show sx_X SC E (0, 0) GL M 52 [(4, sx_J ((ldF (M 66) (M c) p d) + (M 66 d))), (6, sx_I (((d : Nat) : Int))), (3, sx_I (((p : Nat) : Int))), (0, sx_A (53)), (1, sx_A (c)), (2, sx_I (f))] [sx_I (b49)]
        refine sx_if_ne C 57 ⟨by omega, by omega⟩ d_Mo_fits_52 (by decide) (fun c52 => ?_) (fun c52 => ?_)
        · refine sx_iinc (lv' := [(6, sx_I (((d + 1 : Nat) : Int))), (4, sx_J ((ldF (M 66) (M c) p d) + (M 66 d))), (3, sx_I (((p : Nat) : Int))), (0, sx_A (53)), (1, sx_A (c)), (2, sx_I (f))]) C 1 d_Mo_fits_57 rfl (by rw [hnL]; decide) rfl ?_
          refine sx_goto C 16 d_Mo_fits_60 (by decide) ?_
          rw [show (ldF (M 66) (M c) p d) + (M 66 d) = ldF (M 66) (M c) p (d + 1) from by show _ = ldF (M 66) (M c) p d + (if M c d = (p : Int) then M 66 d else 0); rw [if_pos (by omega)]]
          refine sx_sub [0, 1, 2, 3, 4, 5] rfl ?_
          exact ih (d + 1) (by omega) (fun e he hp2 => by rcases Nat.lt_or_ge e d with y | y; exact h1 e y hp2; rw [show e = d by omega]; (rcases hb49 with ⟨z1, z2⟩ | ⟨z1, z2⟩; exact z2; (exfalso; omega))) (by omega)
        · refine sx_iconst C d_Mo_fits_55 ?_
          refine sx_zreturn C Rr (by omega) rfl d_Mo_fits_56 ?_
          refine ⟨rfl, rfl, 0, rfl, Or.inr ⟨rfl, fun z => ?_⟩⟩
          rcases hb49 with ⟨z1, z2⟩ | ⟨z1, z2⟩
          · omega
          · exact z2 ((z p hp).1 d (by omega) (by omega))
set_option maxRecDepth 100000 in
set_option maxHeartbeats 4000000 in
theorem lp_Mo_fits  (M : sx_M0) (hT : tw M) (hr : rT M) (hA : ∀ d, d < 6 → 0 ≤ M 66 d ∧ M 66 d ≤ 150) (c : Nat) (hc : c < GL.1) (hcs : GL.2.1 c = (1, 6)) (hg : ∀ d, d < (M 1 0).toNat → -1 ≤ M c d ∧ M c d ≤ 4) (f : Int) (hf : -1 ≤ f ∧ f ≤ 4) {E : sx_E} (C : sx_C SC g_tbl "SiteChoiceModel" c_Mo_fits E) (Rr : sx_Ret SC (some .boolean) (rmk 1 40) (fun r G' M' => G' = GL ∧ M' = M ∧ bz (∀ p : Nat, p < (M 1 1).toNat → ftP M (M 66) (M c) f p) r) E) (hnL : sx_nL E = 7) : ∀ (nF : Nat) (p : Nat), (M 1 1).toNat - p < nF → (∀ e : Nat, e < p → ftP M (M 66) (M c) f e) → p ≤ (M 1 1).toNat → sx_X SC E (0, 0) GL M 2 [(3, sx_I (((p : Nat) : Int))), (0, sx_A (53)), (1, sx_A (c)), (2, sx_I (f))] [] := by
  intro nF
  induction nF with
  | zero => intro p h; omega
  | succ nF ih =>
    intro p hn h1 h2
    have g0 := hT.1
    have g1 := hT.2.1
    have r0 := hr.1
    have r1 := hr.2.1
    refine sx_iload_n C 0 d_Mo_fits_2 rfl rfl ?_
    refine sx_aload_n C 1 d_Mo_fits_3 rfl rfl ?_
    refine sx_geti C f_Mo_77 (by decide) rfl d_Mo_fits_4 ?_
    refine sx_icmp_ge C 88 ⟨by omega, by omega⟩ ⟨by omega, by omega⟩ d_Mo_fits_7 (by decide) (fun c7 => ?_) (fun c7 => ?_)
    · refine sx_iconst C d_Mo_fits_88 ?_
      refine sx_zreturn C Rr (by omega) rfl d_Mo_fits_89 ?_
      exact ⟨rfl, rfl, 1, rfl, Or.inl ⟨rfl, fun e he => h1 e (by omega)⟩⟩
    · refine sx_lconst C 0 rfl d_Mo_fits_10 ?_
      refine sx_lstore (lv' := [(4, sx_J (0)), (3, sx_I (((p : Nat) : Int))), (0, sx_A (53)), (1, sx_A (c)), (2, sx_I (f))]) C d_Mo_fits_11 (by rw [hnL]; decide) rfl ?_
      refine sx_iconst C d_Mo_fits_13 ?_
      refine sx_istore (lv' := [(6, sx_I (0)), (4, sx_J (0)), (3, sx_I (((p : Nat) : Int))), (0, sx_A (53)), (1, sx_A (c)), (2, sx_I (f))]) C d_Mo_fits_14 (by rw [hnL]; decide) rfl ?_
      refine sx_sub [0, 1, 2, 3, 4, 5] rfl ?_
      refine lp2_Mo_fits M hT hr hA c hc hcs hg f hf p (by omega) C Rr hnL (fun hx2 => ?_) _ 0 (Nat.lt_succ_self _) (fun e he => absurd he (Nat.not_lt_zero e)) (Nat.zero_le _)
      have lb := ld_bd (g := M c) (p := p) hA (n := (M 1 0).toNat) (by omega)
      obtain ⟨ep1, ep2, ep3, ep4, ep5, ep6⟩ := hr.2.2.2.2.2.2 p (by omega)
      have er := hT.2.2.2.2.2.2.2.2.2.1 p (by omega)
      refine sx_iload_n C 1 d_Mo_fits_63 rfl rfl ?_
      refine sx_iload_n C 4 d_Mo_fits_64 rfl rfl ?_
      refine sx_icmp_eq C 82 ⟨by omega, by omega⟩ ⟨by omega, by omega⟩ d_Mo_fits_65 (by decide) (fun c65 => ?_) (fun c65 => ?_)
      · refine sx_iinc (lv' := [(3, sx_I (((p + 1 : Nat) : Int))), (4, sx_J (ldF (M 66) (M c) p (M 1 0).toNat)), (0, sx_A (53)), (1, sx_A (c)), (2, sx_I (f))]) C 1 d_Mo_fits_82 rfl (by rw [hnL]; decide) rfl ?_
        refine sx_goto C 2 d_Mo_fits_85 (by decide) ?_
        refine sx_sub [0, 2, 3, 4] rfl ?_
        exact ih (p + 1) (by omega) (fun e he => by rcases Nat.lt_or_ge e p with y | y; exact h1 e y; rw [show e = p by omega]; exact ⟨hx2, fun y2 => by omega⟩) (by omega)
      · refine sx_lload C 0 d_Mo_fits_68 rfl ?_
        refine sx_aload_n C 2 d_Mo_fits_70 rfl rfl ?_
        refine sx_getr C f_Mo_25 59 (by decide) rfl rfl d_Mo_fits_71 ?_
        refine sx_iload_n C 1 d_Mo_fits_74 rfl rfl ?_
        refine sx_laload C p (by decide) rfl rfl rfl (by omega) (by decide) d_Mo_fits_75 ?_
        refine sx_lcmp_le C 82 ⟨by omega, by omega⟩ ⟨by omega, by omega⟩ d_Mo_fits_76 d_Mo_fits_77 (by decide) (fun c77 => ?_) (fun c77 => ?_)
        · refine sx_iinc (lv' := [(3, sx_I (((p + 1 : Nat) : Int))), (4, sx_J (ldF (M 66) (M c) p (M 1 0).toNat)), (0, sx_A (53)), (1, sx_A (c)), (2, sx_I (f))]) C 1 d_Mo_fits_82 rfl (by rw [hnL]; decide) rfl ?_
          refine sx_goto C 2 d_Mo_fits_85 (by decide) ?_
          refine sx_sub [0, 2, 3, 4] rfl ?_
          exact ih (p + 1) (by omega) (fun e he => by rcases Nat.lt_or_ge e p with y | y; exact h1 e y; rw [show e = p by omega]; exact ⟨hx2, fun y2 => by omega⟩) (by omega)
        · refine sx_iconst C d_Mo_fits_80 ?_
          refine sx_zreturn C Rr (by omega) rfl d_Mo_fits_81 ?_
          refine ⟨rfl, rfl, 0, rfl, Or.inr ⟨rfl, fun z => ?_⟩⟩
          have := (z p (by omega)).2 (by omega)
          omega
set_option maxRecDepth 100000 in
set_option maxHeartbeats 4000000 in
theorem ct_Mo_fits (l : Launch) (D : va_G) (tc : Nat → ClassId) (M : sx_M0) (hT : tw M) (hr : rT M) (hA : ∀ d, d < 6 → 0 ≤ M 66 d ∧ M 66 d ≤ 150) (c : Nat) (hc : c < GL.1) (hcs : GL.2.1 c = (1, 6)) (hg : ∀ d, d < (M 1 0).toNat → -1 ≤ M c d ∧ M c d ≤ 4) (f : Int) (hf : -1 ≤ f ∧ f ≤ 4) : sx_Met SC l D tc y_Mo_fits w_Mo_fits (rmk 1 40) [sx_A (53), sx_A (c), sx_I (f)] GL M (fun r G' M' => G' = GL ∧ M' = M ∧ bz (∀ p : Nat, p < (M 1 1).toNat → ftP M (M 66) (M c) f p) r) := by
  refine sx_enter (by decide) rfl (Nat.le_of_ble_eq_true rfl) (Ts := g_tbl) (fun _ h => List.mem_cons_of_mem _ h) (fun E C Rr hnm hnL => ?_)
  refine sx_iconst C d_Mo_fits_0 ?_
  refine sx_istore_n (lv' := [(3, sx_I (0)), (0, sx_A (53)), (1, sx_A (c)), (2, sx_I (f))]) C d_Mo_fits_1 rfl (by rw [hnL]; decide) rfl ?_
  refine sx_sub [0, 1, 2, 3] rfl ?_
  exact lp_Mo_fits M hT hr hA c hc hcs hg f hf C Rr hnL _ 0 (Nat.lt_succ_self _) (fun e he => absurd he (Nat.not_lt_zero e)) (Nat.zero_le _)
theorem ps_P {g : Nat → Int} {P : Int} : ∀ {n : Nat}, (∀ d, d < n → g d < P) → 0 ≤ P → psF g n < 2 ^ P.toNat
  | 0, _, _ => Nat.two_pow_pos _
  | n + 1, h, hP => by
    have q := ps_P (n := n) (fun d hd => h d (by omega)) hP
    have q2 := h n (by omega)
    show (if 0 ≤ g n then psF g n ||| 2 ^ (g n).toNat else psF g n) < _
    split
    · exact Nat.or_lt_two_pow q (Nat.pow_lt_pow_right (by decide) (by omega))
    · exact q
set_option maxRecDepth 100000 in
set_option maxHeartbeats 4000000 in
theorem lp_Mo_isPlan  (M : sx_M0) (hT : tw M) (hr : rT M) (hA : ∀ d, d < 6 → 0 ≤ M 66 d ∧ M 66 d ≤ 150) (c : Nat) (hc : c < GL.1) (hcs : GL.2.1 c = (1, 6)) (hg : ∀ d, d < (M 1 0).toNat → -1 ≤ M c d ∧ M c d < M 1 1) (f : Int) (hf : -1 ≤ f ∧ f ≤ 4) {E : sx_E} (C : sx_C SC g_tbl "SiteChoiceModel" c_Mo_isPlan E) (Rr : sx_Ret SC (some .boolean) (rmk 2 80) (fun r G' M' => G' = GL ∧ M' = M ∧ bz (FP M (M 66) (M c) f) r) E) (hnL : sx_nL E = 4) : ∀ (nF : Nat) (d : Nat), (M 1 0).toNat - d < nF → (∀ e : Nat, e < d → (0 < M 66 e ↔ 0 ≤ M c e)) → d ≤ (M 1 0).toNat → sx_X SC E (0, 0) GL M 2 [(3, sx_I (((d : Nat) : Int))), (0, sx_A (53)), (1, sx_A (c)), (2, sx_I (f))] [] := by
  intro nF
  induction nF with
  | zero => intro d h; omega
  | succ nF ih =>
    intro d hn h1 h2
    have g0 := hT.1
    have g1 := hT.2.1
    have r0 := hr.1
    have r1 := hr.2.1
    have hg4 : ∀ d, d < (M 1 0).toNat → -1 ≤ M c d ∧ M c d ≤ 4 := fun e he => by have := hg e he; omega
    refine sx_iload_n C 0 d_Mo_isPlan_2 rfl rfl ?_
    refine sx_aload_n C 1 d_Mo_isPlan_3 rfl rfl ?_
    refine sx_geti C f_Mo_73 (by decide) rfl d_Mo_isPlan_4 ?_
    refine sx_icmp_ge C 48 ⟨by omega, by omega⟩ ⟨by omega, by omega⟩ d_Mo_isPlan_7 (by decide) (fun c7 => ?_) (fun c7 => ?_)
    · refine sx_aload_n C 1 d_Mo_isPlan_48 rfl rfl ?_
      refine sx_aload_n C 2 d_Mo_isPlan_49 rfl rfl ?_
      refine sx_iload_n C 3 d_Mo_isPlan_50 rfl rfl ?_
      refine sx_callV (n := 71) (As := [sx_A (c), sx_I (f)]) (st := []) C (ct_Mo_fits _ _ _ M hT hr hA c hc hcs hg4 f hf) rfl (by decide) rfl (cv_Mo_114 E C _ (by rw [Rr.2.2]; decide)) (Nat.le_of_ble_eq_true rfl) d_Mo_isPlan_51 (by rw [Rr.2.2]; decide) (by decide) (by simp [sx_ok]; omega) rfl rfl (fun r51 G51 M51 hpo _ => ?_)
      obtain ⟨e1, e2, b51, rfl, hb51⟩ := hpo
      rw [e1, e2]
      show sx_X SC E (0, 0) GL M 54 [(3, sx_I (((d : Nat) : Int))), (0, sx_A (53)), (1, sx_A (c)), (2, sx_I (f))] [sx_I (b51)]
      refine sx_if_eq C 74 ⟨by omega, by omega⟩ d_Mo_isPlan_54 (by decide) (fun c54 => ?_) (fun c54 => ?_)
      · refine sx_iconst C d_Mo_isPlan_74 ?_
        refine sx_zreturn C Rr (by omega) rfl d_Mo_isPlan_75 ?_
        refine ⟨rfl, rfl, 0, rfl, Or.inr ⟨rfl, fun z => ?_⟩⟩
        first | (have := z.1 d (by omega); omega) | (rcases hb64 with ⟨z1, z2⟩ | ⟨z1, z2⟩; (exfalso; omega); exact z2 z.2.2) | (rcases hb51 with ⟨z1, z2⟩ | ⟨z1, z2⟩; (exfalso; omega); exact z2 z.2.1)
      · refine sx_aload_n C 1 d_Mo_isPlan_57 rfl rfl ?_
        refine sx_aload_n C 1 d_Mo_isPlan_58 rfl rfl ?_
        refine sx_aload_n C 2 d_Mo_isPlan_59 rfl rfl ?_
        refine sx_callV (n := 71) (As := [sx_A (c)]) (st := [sx_A (53)]) C (ct_Mo_placesOf _ _ _ M hT hr c hc hcs hg4) rfl (by decide) rfl (cv_Mo_118 E C _ (by rw [Rr.2.2]; decide)) (Nat.le_of_ble_eq_true rfl) d_Mo_isPlan_60 (by rw [Rr.2.2]; decide) (by decide) (by simp [sx_ok]; omega) rfl rfl (fun r60 G60 M60 hpo _ => ?_)
        obtain ⟨e1, e2, rfl⟩ := hpo
        rw [e1, e2]
        show sx_X SC E (0, 0) GL M 63 [(3, sx_I (((d : Nat) : Int))), (0, sx_A (53)), (1, sx_A (c)), (2, sx_I (f))] [sx_I (((psF (M c) (M 1 0).toNat : Nat) : Int)), sx_A (53)]
        refine sx_iload_n C 3 d_Mo_isPlan_63 rfl rfl ?_
        refine sx_callV (n := 71) (As := [sx_I (((psF (M c) (M 1 0).toNat : Nat) : Int)), sx_I (f)]) (st := []) C (ct_Mo_mayBeOpen _ _ _ M hT hr (psF (M c) (M 1 0).toNat) (ps_P (fun e he => (hg e he).2) (by omega)) f hf) rfl (by decide) rfl (cv_Mo_122 E C _ (by rw [Rr.2.2]; decide)) (Nat.le_of_ble_eq_true rfl) d_Mo_isPlan_64 (by rw [Rr.2.2]; decide) (by decide) (by simp [sx_ok]; omega) rfl rfl (fun r64 G64 M64 hpo _ => ?_)
        obtain ⟨e1, e2, b64, rfl, hb64⟩ := hpo
        rw [e1, e2]
        show sx_X SC E (0, 0) GL M 67 [(3, sx_I (((d : Nat) : Int))), (0, sx_A (53)), (1, sx_A (c)), (2, sx_I (f))] [sx_I (b64)]
        refine sx_if_eq C 74 ⟨by omega, by omega⟩ d_Mo_isPlan_67 (by decide) (fun c67 => ?_) (fun c67 => ?_)
        · refine sx_iconst C d_Mo_isPlan_74 ?_
          refine sx_zreturn C Rr (by omega) rfl d_Mo_isPlan_75 ?_
          refine ⟨rfl, rfl, 0, rfl, Or.inr ⟨rfl, fun z => ?_⟩⟩
          first | (have := z.1 d (by omega); omega) | (rcases hb64 with ⟨z1, z2⟩ | ⟨z1, z2⟩; (exfalso; omega); exact z2 z.2.2) | (rcases hb51 with ⟨z1, z2⟩ | ⟨z1, z2⟩; (exfalso; omega); exact z2 z.2.1)
        · refine sx_iconst C d_Mo_isPlan_70 ?_
          refine sx_goto C 75 d_Mo_isPlan_71 (by decide) ?_
          refine sx_zreturn C Rr (by omega) rfl d_Mo_isPlan_75 ?_
          exact ⟨rfl, rfl, 1, rfl, Or.inl ⟨rfl, fun e he => h1 e (by omega), by rcases hb51 with ⟨z1, z2⟩ | ⟨z1, z2⟩; (exact z2); (exfalso; omega), by rcases hb64 with ⟨z1, z2⟩ | ⟨z1, z2⟩; (exact z2); (exfalso; omega)⟩⟩
    · have q1 := hg d (by omega)
      have q2 := hA d (by omega)
      refine sx_aload_n C 1 d_Mo_isPlan_10 rfl rfl ?_
      refine sx_getr C f_Mo_54 66 (by decide) rfl rfl d_Mo_isPlan_11 ?_
      refine sx_iload_n C 0 d_Mo_isPlan_14 rfl rfl ?_
      refine sx_laload C d (by decide) rfl rfl rfl (by omega) (by decide) d_Mo_isPlan_15 ?_
      refine sx_lconst C 0 rfl d_Mo_isPlan_16 ?_
      refine sx_lcmp_le C 25 ⟨by omega, by omega⟩ ⟨by omega, by omega⟩ d_Mo_isPlan_17 d_Mo_isPlan_18 (by decide) (fun c18 => ?_) (fun c18 => ?_)
      · refine sx_iconst C d_Mo_isPlan_25 ?_
        refine sx_aload_n C 2 d_Mo_isPlan_26 rfl rfl ?_
        refine sx_iload_n C 0 d_Mo_isPlan_27 rfl rfl ?_
        refine sx_iaload C d hc hcs rfl rfl (by omega) (by decide) d_Mo_isPlan_28 ?_
        refine sx_if_lt C 36 ⟨by omega, by omega⟩ d_Mo_isPlan_29 (by decide) (fun c29 => ?_) (fun c29 => ?_)
        · refine sx_iconst C d_Mo_isPlan_36 ?_
          refine sx_icmp_eq C 42 ⟨by omega, by omega⟩ ⟨by omega, by omega⟩ d_Mo_isPlan_37 (by decide) (fun c37 => ?_) (fun c37 => ?_)
          · refine sx_iinc (lv' := [(3, sx_I (((d + 1 : Nat) : Int))), (0, sx_A (53)), (1, sx_A (c)), (2, sx_I (f))]) C 0 d_Mo_isPlan_42 rfl (by rw [hnL]; decide) rfl ?_
            refine sx_goto C 2 d_Mo_isPlan_45 (by decide) ?_
            refine sx_sub [0, 1, 2, 3] rfl ?_
            exact ih (d + 1) (by omega) (fun e he => by rcases Nat.lt_or_ge e d with y | y; exact h1 e y; rw [show e = d by omega]; omega) (by omega)
          · exfalso; omega
        · refine sx_iconst C d_Mo_isPlan_32 ?_
          refine sx_goto C 37 d_Mo_isPlan_33 (by decide) ?_
          refine sx_icmp_eq C 42 ⟨by omega, by omega⟩ ⟨by omega, by omega⟩ d_Mo_isPlan_37 (by decide) (fun c37 => ?_) (fun c37 => ?_)
          · exfalso; omega
          · refine sx_iconst C d_Mo_isPlan_40 ?_
            refine sx_zreturn C Rr (by omega) rfl d_Mo_isPlan_41 ?_
            refine ⟨rfl, rfl, 0, rfl, Or.inr ⟨rfl, fun z => ?_⟩⟩
            first | (have := z.1 d (by omega); omega) | (rcases hb64 with ⟨z1, z2⟩ | ⟨z1, z2⟩; (exfalso; omega); exact z2 z.2.2) | (rcases hb51 with ⟨z1, z2⟩ | ⟨z1, z2⟩; (exfalso; omega); exact z2 z.2.1)
      · refine sx_iconst C d_Mo_isPlan_21 ?_
        refine sx_goto C 26 d_Mo_isPlan_22 (by decide) ?_
        refine sx_aload_n C 2 d_Mo_isPlan_26 rfl rfl ?_
        refine sx_iload_n C 0 d_Mo_isPlan_27 rfl rfl ?_
        refine sx_iaload C d hc hcs rfl rfl (by omega) (by decide) d_Mo_isPlan_28 ?_
        refine sx_if_lt C 36 ⟨by omega, by omega⟩ d_Mo_isPlan_29 (by decide) (fun c29 => ?_) (fun c29 => ?_)
        · refine sx_iconst C d_Mo_isPlan_36 ?_
          refine sx_icmp_eq C 42 ⟨by omega, by omega⟩ ⟨by omega, by omega⟩ d_Mo_isPlan_37 (by decide) (fun c37 => ?_) (fun c37 => ?_)
          · exfalso; omega
          · refine sx_iconst C d_Mo_isPlan_40 ?_
            refine sx_zreturn C Rr (by omega) rfl d_Mo_isPlan_41 ?_
            refine ⟨rfl, rfl, 0, rfl, Or.inr ⟨rfl, fun z => ?_⟩⟩
            first | (have := z.1 d (by omega); omega) | (rcases hb64 with ⟨z1, z2⟩ | ⟨z1, z2⟩; (exfalso; omega); exact z2 z.2.2) | (rcases hb51 with ⟨z1, z2⟩ | ⟨z1, z2⟩; (exfalso; omega); exact z2 z.2.1)
        · refine sx_iconst C d_Mo_isPlan_32 ?_
          refine sx_goto C 37 d_Mo_isPlan_33 (by decide) ?_
          refine sx_icmp_eq C 42 ⟨by omega, by omega⟩ ⟨by omega, by omega⟩ d_Mo_isPlan_37 (by decide) (fun c37 => ?_) (fun c37 => ?_)
          · refine sx_iinc (lv' := [(3, sx_I (((d + 1 : Nat) : Int))), (0, sx_A (53)), (1, sx_A (c)), (2, sx_I (f))]) C 0 d_Mo_isPlan_42 rfl (by rw [hnL]; decide) rfl ?_
            refine sx_goto C 2 d_Mo_isPlan_45 (by decide) ?_
            refine sx_sub [0, 1, 2, 3] rfl ?_
            exact ih (d + 1) (by omega) (fun e he => by rcases Nat.lt_or_ge e d with y | y; exact h1 e y; rw [show e = d by omega]; omega) (by omega)
          · exfalso; omega
set_option maxRecDepth 100000 in
set_option maxHeartbeats 4000000 in
theorem ct_Mo_isPlan (l : Launch) (D : va_G) (tc : Nat → ClassId) (M : sx_M0) (hT : tw M) (hr : rT M) (hA : ∀ d, d < 6 → 0 ≤ M 66 d ∧ M 66 d ≤ 150) (c : Nat) (hc : c < GL.1) (hcs : GL.2.1 c = (1, 6)) (hg : ∀ d, d < (M 1 0).toNat → -1 ≤ M c d ∧ M c d < M 1 1) (f : Int) (hf : -1 ≤ f ∧ f ≤ 4) : sx_Met SC l D tc y_Mo_isPlan w_Mo_isPlan (rmk 2 80) [sx_A (53), sx_A (c), sx_I (f)] GL M (fun r G' M' => G' = GL ∧ M' = M ∧ bz (FP M (M 66) (M c) f) r) := by
  refine sx_enter (by decide) rfl (Nat.le_of_ble_eq_true rfl) (Ts := g_tbl) (fun _ h => List.mem_cons_of_mem _ h) (fun E C Rr hnm hnL => ?_)
  refine sx_iconst C d_Mo_isPlan_0 ?_
  refine sx_istore_n (lv' := [(3, sx_I (0)), (0, sx_A (53)), (1, sx_A (c)), (2, sx_I (f))]) C d_Mo_isPlan_1 rfl (by rw [hnL]; decide) rfl ?_
  refine sx_sub [0, 1, 2, 3] rfl ?_
  exact lp_Mo_isPlan M hT hr hA c hc hcs hg f hf C Rr hnL _ 0 (Nat.lt_succ_self _) (fun e he => absurd he (Nat.not_lt_zero e)) (Nat.zero_le _)
