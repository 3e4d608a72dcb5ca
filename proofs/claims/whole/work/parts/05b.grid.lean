-- the rows down to END began as the text of claim/NAMES.whole.lean.txt (a starting text)
/-! ===== BEGIN new T[n][m]: the outer array a place, the inner ones among the pooled ===== -/
/-- f, but v at every address of l -/
def vr_up {α : Type} (f : Nat → α) (l : List Nat) (v : α) : Nat → α := fun a => if a ∈ l then v else f a
theorem vr_up_in {α : Type} {f : Nat → α} {l : List Nat} {v : α} {a : Nat} (h : a ∈ l) : vr_up f l v a = v := if_pos h
theorem vr_up_ne {α : Type} {f : Nat → α} {l : List Nat} {v : α} {a : Nat} (h : a ∉ l) : vr_up f l v a = f a := if_neg h
theorem vr_rows {L l : List Nat} {f : Nat → va_E} {e : va_E} (h : ∀ a, a ∈ l → a ∉ L) : va_pl L f ++ l.map (fun a => (a, e)) = va_pl (L ++ l) (vr_up f l e) := by
  unfold va_pl
  rw [List.map_append]
  congr 1
  · apply List.map_congr_left
    intro a ha
    rw [vr_up_ne (fun q => h a q ha)]
  · apply List.map_congr_left
    intro a ha
    rw [vr_up_in ha]
theorem vr_lay {X rows : va_W} {x : Nat × va_E} {pl : va_W} {D : va_G} {cl : List vw_C} {H : Heap} (hP : va_P D cl (((X ++ pl) ++ [x]) ++ rows) H) : va_P D cl ((X ++ [x]) ++ (pl ++ rows)) H := by
  rw [List.append_assoc (X ++ pl)] at hP
  have h := va_P.swap hP
  rw [← List.append_assoc X] at h
  have h2 := va_P.swap h
  rw [List.append_assoc (X ++ [x])] at h2
  exact h2
theorem vr_layD {X rows : va_W} {x : Nat × va_E} {pl : va_W} {A : Nat → Prop} (hD : va_D A (((X ++ pl) ++ [x]) ++ rows)) : va_D A ((X ++ [x]) ++ (pl ++ rows)) := by
  rw [List.append_assoc (X ++ pl)] at hD
  have h := va_D.swap hD
  rw [← List.append_assoc X] at h
  have h2 := va_D.swap h
  rw [List.append_assoc (X ++ [x])] at h2
  exact h2
theorem vr_outer (c : ClassId) (N h0 : Nat) : ∀ i : Nat, Jvm.Free.Multi.outerC c N h0 i = arrV c N (fun j => va_rf (if j < i then some (h0 + 1 + j) else none))
  | 0 => by
    show ({ cls := c, slots := Array.replicate N .null, vm := .none } : Cell) = _
    rw [arrV_new]
    refine congrArg (arrV c N) (funext fun j => ?_)
    simp [va_rf]
  | i + 1 => by
    show (Jvm.Free.Multi.outerC c N h0 i).setSlot i (.ref (h0 + 1 + i)) = _
    rw [vr_outer c N h0 i, arrV_store]
    refine congrArg (arrV c N) (funext fun j => ?_)
    by_cases e : j = i
    · subst e
      simp [updV, va_rf]
    · by_cases h : j < i
      · simp [updV, e, h, Nat.lt_succ_of_lt h]
      · simp [updV, e, h, show ¬ j < i + 1 by omega]
section VGM
variable {p : Program} {l : Launch} {e : Env} {R : Room} {s : State} {m : MethodId} {args : Array Value} {below : List Frame} {meth : Method} {c : Code} {H : Heap} {locs : List Loc} {cells slots : Nat} {Q : State → Prop}
variable {cc : ByteArray} {pc : Nat} {ls : Array Slot} {rest : List Value} {D : va_G} {cl : List vw_C} {A : Nat → Prop} {a : Nat} {tys : List (ClassId × FieldType)} {ws : va_W} {H0 : Heap}
theorem va_mna {X : va_W} {L : List Nat} {f : Nat → va_E} {cc : ByteArray} (hexec : p.tables.exec = Jvm.exec) (hb : c.code = cc) {own : String} {index : Nat} {ty : FieldType} {cy : ClassId} (hown : s.vm.findClass own = some m.cls) (hclink : (Cond.classLink own index ("[" ++ (FieldType.array ty).toString)).before args s = true) (hover : (Cond.arrayOver (.array ty)).before args s = true) (harr : (Cond.arrayClass ty).before args s = true) (hcy : s.vm.findClass (FieldType.array ty).toString = some cy)
    (hK : va_K D cl tys s) (hP : va_P D cl (X ++ va_pl L f) H) (hD : va_D A (X ++ va_pl L f)) (hS : va_S A H0 H locs) (hA : ∀ q, H0.size ≤ q → A q) {n k : Int32} {N' K' : Nat} {z : vp_A} (hn : ¬ n < 0) (hk : ¬ k < 0) (hN : n.toNatClampNeg = N') (hM : k.toNatClampNeg = K')
    (hb1 : N' * 4 ≤ 536870912) (hb2 : K' * componentBytes ty ≤ 536870912) (hb3 : K' ≤ 536870912) (hdf : fits ty (defaultValue ty) = true) (hdd : (defaultValue ty).isDefault = true) (hcells : cells + (1 + N') ≤ R.cells) (hslots : slots + (N' + N' * K') ≤ R.slots) (hz : ∀ c : ClassId, Jvm.Free.Multi.innerC c K' (defaultValue ty) = vp_cell c z) (hdg : decode cc pc = .ok (.multianewarray index 2, 4))
    (kk : ∀ (q : Nat) (r : Nat → Nat) (cA : ClassId) (H1 : Heap), (∀ i j : Nat, i < N' → j < N' → r i = r j → i = j) → (∀ i : Nat, i < N' → r i ∉ L) → va_K D cl (tys ++ [(cA, .array ty)]) s →
      va_P D cl ((X ++ [(q, .inl (cA, N', .inr (.inr (.inr (.inr (fun i => if i < N' then some (r i) else none))))))]) ++ va_pl (L ++ (List.range N').map r) (vr_up f ((List.range N').map r) (.inl (cy, z)))) H1 → va_D A ((X ++ [(q, .inl (cA, N', .inr (.inr (.inr (.inr (fun i => if i < N' then some (r i) else none))))))]) ++ va_pl (L ++ (List.range N').map r) (vr_up f ((List.range N').map r) (.inl (cy, z)))) → va_S A H0 H1 locs →
      W p l e R s m args below meth c H1 locs (cells + 1 + N') (slots + N' + N' * K') Q (F0 m (pc + 4) ls (.ref q :: rest))) : W p l e R s m args below meth c H locs cells slots Q (F0 m pc ls (.int k :: .int n :: rest)) := by
  subst hN
  subst hM
  intro T hT Xs
  obtain ⟨vm₁, cA, comp, -, fA, fC, hO, -, X', step⟩ := Xs.multianewarray2F hexec hown hclink hover harr (g := F0 m pc ls (.int k :: .int n :: rest)) rfl (by rw [hb]; exact hdg) rfl hn hk hb1 hb2 hb3 hdf hdd hcells hslots
  have ec : some cy = some comp := hcy.symm.trans fC
  cases ec
  generalize hF : Jvm.Free.Multi.fill (T.setVm vm₁) cA cy n.toNatClampNeg k.toNatClampNeg (defaultValue ty) n.toNatClampNeg = F at X' step
  have hTh : (T.setVm vm₁).heap = H := hT
  obtain ⟨f1, f2, -, -⟩ := Jvm.Free.Multi.fill_facts (T.setVm vm₁) cA cy n.toNatClampNeg k.toNatClampNeg (defaultValue ty) n.toNatClampNeg
  rw [hF, hTh] at f1 f2
  have hold : ∀ x : Nat, x < H.size → F.heap[x]? = H[x]? := fun x hx => by
    have := Jvm.Free.Multi.fill_old (T.setVm vm₁) cA cy n.toNatClampNeg k.toNatClampNeg (defaultValue ty) (a := x) (by rw [hTh]; exact hx) n.toNatClampNeg
    rw [hF, hTh] at this
    exact this
  have hrow : ∀ j : Nat, j < n.toNatClampNeg → F.heap[H.size + 1 + j]? = some (vp_cell cy z) := fun j hj => by
    have := Jvm.Free.Multi.fill_inner (T.setVm vm₁) cA cy n.toNatClampNeg k.toNatClampNeg (defaultValue ty) n.toNatClampNeg j hj
    rw [hF, hTh, hz] at this
    exact this
  have hout : Jvm.Free.Multi.outerC cA n.toNatClampNeg H.size n.toNatClampNeg = vp_cell cA (n.toNatClampNeg, .inr (.inr (.inr (.inr (fun i => if i < n.toNatClampNeg then some (H.size + 1 + i) else none))))) := by
    rw [vp_cell_q]
    exact vr_outer cA n.toNatClampNeg H.size n.toNatClampNeg
  rw [hout] at f2
  have hlt : ∀ a, a ∈ L → a < H.size := fun a ha => by
    obtain ⟨k9, hk9⟩ := va_pl_get (X := X) (f := f) ha
    exact (hP k9 _ hk9).lt
  have hnl : ∀ i : Nat, i < n.toNatClampNeg → H.size + 1 + i ∉ L := fun i _ h => by
    have := hlt _ h
    omega
  have hnm : ∀ a, a ∈ (List.range n.toNatClampNeg).map (fun i => H.size + 1 + i) → a ∉ L := fun a ha h => by
    obtain ⟨i, -, rfl⟩ := List.mem_map.mp ha
    have := hlt _ h
    omega
  have hP0 : va_P D cl (X ++ va_pl L f) F.heap := hP.kept (fun k9 x hx => hold x.1 ((hP k9 x hx).lt))
  have hP1 : va_P D cl ((X ++ va_pl L f) ++ [(H.size, .inl (cA, n.toNatClampNeg, .inr (.inr (.inr (.inr (fun i => if i < n.toNatClampNeg then some (H.size + 1 + i) else none))))))]) F.heap := hP0.app (fun k9 x hx => by
    have h0 : k9 < 1 := (List.getElem?_eq_some_iff.mp hx).1
    rw [show k9 = 0 by omega] at hx
    cases hx
    exact f2)
  have hP2 : va_P D cl (((X ++ va_pl L f) ++ [(H.size, .inl (cA, n.toNatClampNeg, .inr (.inr (.inr (.inr (fun i => if i < n.toNatClampNeg then some (H.size + 1 + i) else none))))))]) ++ ((List.range n.toNatClampNeg).map (fun i => H.size + 1 + i)).map (fun a => (a, .inl (cy, z)))) F.heap := hP1.app (fun k9 x hx => by
    obtain ⟨a, ha, rfl⟩ := List.mem_map.mp (List.mem_of_getElem? hx)
    obtain ⟨i, hi, rfl⟩ := List.mem_map.mp ha
    exact hrow i (List.mem_range.mp hi))
  have hD2 : va_D A (((X ++ va_pl L f) ++ [(H.size, .inl (cA, n.toNatClampNeg, .inr (.inr (.inr (.inr (fun i => if i < n.toNatClampNeg then some (H.size + 1 + i) else none))))))]) ++ ((List.range n.toNatClampNeg).map (fun i => H.size + 1 + i)).map (fun a => (a, .inl (cy, z)))) := by
    have hD1 := hD.push (e := .inl (cA, n.toNatClampNeg, .inr (.inr (.inr (.inr (fun i => if i < n.toNatClampNeg then some (H.size + 1 + i) else none)))))) hP rfl (hA _ hS.1)
    generalize hW1 : (X ++ va_pl L f) ++ [(H.size, .inl (cA, n.toNatClampNeg, .inr (.inr (.inr (.inr (fun i => if i < n.toNatClampNeg then some (H.size + 1 + i) else none))))))] = W1 at hD1 hP1 ⊢
    have hle : ∀ (k9 : Nat) (x : Nat × va_E), W1[k9]? = some x → x.1 ≤ H.size := fun k9 x hx => by
      rw [← hW1] at hx
      by_cases hl : k9 < (X ++ va_pl L f).length
      · rw [List.getElem?_append_left hl] at hx
        exact Nat.le_of_lt ((hP k9 x hx).lt)
      · rw [List.getElem?_append_right (by omega)] at hx
        have h0 : k9 - (X ++ va_pl L f).length < 1 := (List.getElem?_eq_some_iff.mp hx).1
        rw [show k9 - (X ++ va_pl L f).length = 0 by omega] at hx
        cases hx
        exact Nat.le_refl _
    have hr : ∀ (k9 : Nat) (x : Nat × va_E), (((List.range n.toNatClampNeg).map (fun i => H.size + 1 + i)).map (fun a => ((a, .inl (cy, z)) : Nat × va_E)))[k9]? = some x → x.1 = H.size + 1 + k9 := fun k9 x hx => by
      rw [List.getElem?_map, List.getElem?_map] at hx
      by_cases h9 : k9 < n.toNatClampNeg
      · rw [List.getElem?_range h9] at hx
        cases hx
        rfl
      · have hn0 : (List.range n.toNatClampNeg)[k9]? = none := List.getElem?_eq_none (by rw [List.length_range]; omega)
        rw [hn0] at hx
        cases hx
    refine ⟨fun i j x y hi hj hxy => ?_, fun k9 x hx => ?_⟩
    · by_cases h1 : i < W1.length <;> by_cases h2 : j < W1.length
      · rw [List.getElem?_append_left h1] at hi
        rw [List.getElem?_append_left h2] at hj
        exact hD1.1 i j x y hi hj hxy
      · rw [List.getElem?_append_left h1] at hi
        rw [List.getElem?_append_right (by omega)] at hj
        have := hle _ _ hi
        have := hr _ _ hj
        omega
      · rw [List.getElem?_append_right (by omega)] at hi
        rw [List.getElem?_append_left h2] at hj
        have := hle _ _ hj
        have := hr _ _ hi
        omega
      · rw [List.getElem?_append_right (by omega)] at hi hj
        have := hr _ _ hi
        have := hr _ _ hj
        omega
    · by_cases h1 : k9 < W1.length
      · rw [List.getElem?_append_left h1] at hx
        exact hD1.2 k9 x hx
      · rw [List.getElem?_append_right (by omega)] at hx
        have := hr _ _ hx
        exact hA _ (by have := hS.1; omega)
  have hAr : ArrOfT s cA (.array ty) := fun N9 z9 => by
    obtain ⟨-, k9, hk9, cm9, hkk9⟩ := (hO 0 0 0).1
    exact ⟨(fun q hq => by cases hq), k9, hk9, cm9, hkk9⟩
  have hK2 : va_K D cl (tys ++ [(cA, .array ty)]) s := ⟨hK.1, fun k9 x hx => by
    by_cases hl : k9 < tys.length
    · rw [List.getElem?_append_left hl] at hx
      exact hK.2 k9 x hx
    · rw [List.getElem?_append_right (by omega)] at hx
      have h0 : k9 - tys.length < 1 := (List.getElem?_eq_some_iff.mp hx).1
      rw [show k9 - tys.length = 0 by omega] at hx
      cases hx
      exact ⟨hAr, fA⟩⟩
  obtain ⟨t, a1, b1⟩ := kk H.size (fun i => H.size + 1 + i) cA F.heap (fun i j _ _ h => by have h9 : H.size + 1 + i = H.size + 1 + j := h; omega) hnl hK2 (by rw [← vr_rows hnm]; exact vr_lay hP2) (by rw [← vr_rows hnm]; exact vr_layD hD2) ⟨by rw [f1]; have := hS.1; omega, fun x h1 h2 => (hold x (Nat.lt_of_lt_of_le h1 hS.1)).trans (hS.2.1 x h1 h2), hS.2.2⟩ F rfl X'
  refine ⟨t, step t ?_, b1⟩
  have e : T.heap.size = H.size := by rw [hT]
  rw [e]
  exact a1
end VGM
/-! ===== END ===== -/
def sx_gm (G : sx_G) (a b N K : Nat) : sx_G := (G.1 + 1 + N, fun k => if k < G.1 then G.2.1 k else if k = G.1 then (a + 1, N) else (b + 1, K), fun k => if k < G.1 then G.2.2 k else if k = G.1 then (fun j => if j < N then some (G.1 + 1 + j) else none) else fun _ => none)
def sx_mm (G : sx_G) (M : sx_M0) : sx_M0 := fun k => if k < G.1 then M k else fun _ => 0
def sx_am (ad : Nat → Nat) (n q : Nat) (r : Nat → Nat) : Nat → Nat := fun k => if k < n then ad k else if k = n then q else r (k - n - 1)
theorem sx_am_lt {ad : Nat → Nat} {n q : Nat} {r : Nat → Nat} {k : Nat} (h : k < n) : sx_am ad n q r k = ad k := by simp [sx_am, h]
theorem sx_am_eq {ad : Nat → Nat} {n q : Nat} {r : Nat → Nat} : sx_am ad n q r n = q := by simp [sx_am]
theorem sx_am_gt {ad : Nat → Nat} {n q : Nat} {r : Nat → Nat} {i : Nat} : sx_am ad n q r (n + 1 + i) = r i := by
  unfold sx_am
  rw [if_neg (by omega), if_neg (by omega), show n + 1 + i - n - 1 = i by omega]
theorem sx_w_mna {S : sx_S} {tc : Nat → ClassId} {ad : Nat → Nat} {G : sx_G} {M : sx_M0} {q a b N K : Nat} {r : Nat → Nat} {g : Nat → va_E} (hcl : sx_cl G) (ha : S.2.2[a]? = some (.array .long)) (hb : S.2.2[b]? = some .long) (hg : ∀ i, i < N → g (r i) = .inl (tc b, K, .inr (.inl (fun _ => 0)))) :
    (sx_w S tc ad G M ++ [(q, .inl (tc a, N, .inr (.inr (.inr (.inr (fun i => if i < N then some (r i) else none))))))]) ++ va_pl ((List.range N).map r) g = sx_w S tc (sx_am ad G.1 q r) (sx_gm G a b N K) (sx_mm G M) := by
  unfold sx_w va_pl
  show _ = (List.range (G.1 + 1 + N)).map _
  rw [List.range_add, List.map_append, List.range_succ, List.map_append, List.map_singleton, List.map_map, List.map_map]
  congr 1
  · congr 1
    · apply List.map_congr_left
      intro k hk
      have hk' : k < G.1 := List.mem_range.mp hk
      simp only [sx_gm, sx_mm, if_pos hk', sx_am_lt hk']
      rw [sx_cell_ad (fun j x hx => sx_am_lt (hcl k j x hk' hx))]
    · simp only [sx_gm, sx_mm, Nat.lt_irrefl, if_false, if_true, sx_am_eq, sx_cell, ha, sx_arr]
      congr 9
      funext i
      by_cases hi : i < N
      · rw [if_pos hi, if_pos hi, Option.map_some, sx_am_gt]
      · rw [if_neg hi, if_neg hi]; rfl
  · apply List.map_congr_left
    intro i hi
    have hi' : i < N := List.mem_range.mp hi
    have h1 : ¬ G.1 + 1 + i < G.1 := by omega
    have h2 : ¬ G.1 + 1 + i = G.1 := by omega
    simp only [Function.comp, sx_gm, sx_mm, if_neg h1, if_neg h2, sx_am_gt, hg i hi', sx_cell, hb, sx_arr]
    rfl
theorem sx_cl_gm {G : sx_G} {a b N K : Nat} (h : sx_cl G) : sx_cl (sx_gm G a b N K) := by
  intro k j r hk hr
  show r < G.1 + 1 + N
  have hr' : (if k < G.1 then G.2.2 k else if k = G.1 then (fun j => if j < N then some (G.1 + 1 + j) else none) else fun _ => none) j = some r := hr
  by_cases h1 : k < G.1
  · rw [if_pos h1] at hr'
    have := h k j r h1 hr'
    omega
  · rw [if_neg h1] at hr'
    by_cases h2 : k = G.1
    · rw [if_pos h2] at hr'
      have hr2 : (if j < N then some (G.1 + 1 + j) else none) = some r := hr'
      split at hr2
      · cases hr2; omega
      · cases hr2
    · rw [if_neg h2] at hr'
      cases hr'
section SXG
variable {S : sx_S} {E : sx_E} {cs : Nat × Nat} {G : sx_G} {M : sx_M0} {pc : Nat} {lv : List (Nat × sx_V)} {st : List sx_V} {Ts : List Cond} {own : String} {cc : ByteArray} {idx : Nat}
theorem sx_mna (C : sx_C S Ts own cc E) {a b N K : Nat} {x y : Int} (ha : S.2.2[a]? = some (.array .long)) (hb : S.2.2[b]? = some .long) (h1 : Cond.classLink own idx "[[J" ∈ Ts) (h2 : Cond.arrayClass .long ∈ Ts) (hx : x = (N : Int)) (hy : y = (K : Int)) (hN : N < 1048576) (hK : K < 1048576) (hcells : cs.1 + (1 + N) ≤ (sx_R E).cells) (hslots : cs.2 + (N + N * K) ≤ (sx_R E).slots) (hd : decode cc pc = .ok (.multianewarray idx 2, 4))
    (hcl : sx_cl G) {n : Nat} (hn : n ≤ G.1) (hlo : lv.all (fun q => sx_ok n q.2) = true) (hso : st.all (sx_ok n) = true)
    (kk : sx_X S E (cs.1 + 1 + N, cs.2 + N + N * K) (sx_gm G a b N K) (sx_mm G M) (pc + 4) lv (sx_A G.1 :: st)) : sx_X S E cs G M pc lv (sx_I y :: sx_I x :: st) := by
  subst hx; subst hy
  intro H locs ls ad hP hD hS hz haa hl
  have e0 : sx_w S (sx_tc E) ad G M ++ va_pl [] (fun _ => .inr (0, [])) = sx_w S (sx_tc E) ad G M := List.append_nil _
  have eb := (C.2.2.2.2.2.2.1.2 b _ (sx_ty_get hb)).2
  have ea := (C.2.2.2.2.2.2.1.2 a _ (sx_ty_get ha)).2
  refine va_mna (D := sx_D E) (X := sx_w S (sx_tc E) ad G M) (L := []) (f := fun _ => .inr (0, [])) (ty := .long) (cy := sx_tc E b) (n := Int32.ofInt (N : Int)) (k := Int32.ofInt (K : Int)) (N' := N) (K' := K) (z := (K, .inr (.inl (fun _ => 0)))) C.1 C.2.1 C.2.2.2.1 (C.2.2.2.2.1 _ h1) C.2.2.2.2.2.1.2 (C.2.2.2.2.1 _ h2) eb C.2.2.2.2.2.2.1 (by rw [e0]; exact hP) (by rw [e0]; exact hD) hS C.2.2.2.2.2.2.2 (by rw [sx_nI]; exact nI_pos (by omega)) (by rw [sx_nI]; exact nI_pos (by omega)) (sx_clamp (by omega)) (sx_clamp (by omega)) (by omega) (by show K * 8 ≤ _; omega) (by omega) rfl rfl hcells hslots (fun c => by show ({ cls := c, slots := Array.replicate K (defaultValue .long), vm := .none } : Cell) = _; rw [arrV_new]; rfl) hd (fun q r cA H1 hri hrl hK1 hP1 hD1 hS1 => ?_)
  have e1 := (hK1.2 (sx_ty S (sx_tc E)).length (cA, .array .long) (by simp)).2
  have e3 : cA = sx_tc E a := Option.some.inj (e1.symm.trans ea)
  subst e3
  have hg : ∀ i, i < N → vr_up (fun _ => (.inr (0, []) : va_E)) ((List.range N).map r) (.inl (sx_tc E b, K, .inr (.inl (fun _ => 0)))) (r i) = .inl (sx_tc E b, K, .inr (.inl (fun _ => 0))) := fun i hi => vr_up_in (List.mem_map.mpr ⟨i, List.mem_range.mpr hi, rfl⟩)
  rw [List.nil_append, sx_w_mna hcl ha hb hg] at hP1 hD1
  have hext : ∀ k, k < G.1 → sx_am ad G.1 q r k = ad k := fun k hk => sx_am_lt hk
  have hlv : sx_lv (sx_am ad G.1 q r) lv = sx_lv ad lv := List.map_congr_left (fun x hx => by
    rw [sx_ok_cv hext hn (List.all_eq_true.mp hlo x hx)])
  have hst : st.map (sx_cv (sx_am ad G.1 q r)) = st.map (sx_cv ad) := List.map_congr_left (fun x hx => sx_ok_cv hext hn (List.all_eq_true.mp hso x hx))
  have h := kk H1 locs ls (sx_am ad G.1 q r) hP1 hD1 hS1 (by show _ ≤ G.1 + 1 + N; omega) (fun k hk => (hext k (Nat.lt_of_lt_of_le hk hz)).trans (haa k hk)) (by rw [hlv]; exact hl)
  have e4 : (sx_A G.1 :: st).map (sx_cv (sx_am ad G.1 q r)) = .ref q :: st.map (sx_cv ad) := by
    rw [List.map_cons, hst]
    show Value.ref (sx_am ad G.1 q r G.1) :: _ = _
    rw [sx_am_eq]
  rw [e4] at h
  exact h
end SXG
