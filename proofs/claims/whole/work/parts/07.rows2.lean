section XR
variable {p : Program} {l : Launch} {e : Env} {R : Room} {s : State} {m : MethodId} {args : Array Value} {below : List Frame} {meth : Method} {c : Code} {Q : State → Prop} {cells slots : Nat}
variable {D : va_G} {cl : List vw_C} {tys : List (ClassId × FieldType)} {A : Nat → Prop} {nL : Nat} {cc : ByteArray} {TB : List Cond} {own : String}
variable {ws ws' : va_W} {pc : Nat} {lv lv' : List (Nat × Value)} {st : List Value}

theorem x_P_mem {H : Heap} (h : va_P D cl ws H) : ∀ q ∈ ws, va_at D cl q H := fun q hq => by
  obtain ⟨i, hi⟩ := List.getElem?_of_mem hq
  exact h i q hi
theorem x_mem_P {H : Heap} (h : ∀ q ∈ ws, va_at D cl q H) : va_P D cl ws H := fun _ q hk => h q (List.mem_of_getElem? hk)
theorem x_D_iff : va_D A ws ↔ (ws.map Prod.fst).Nodup ∧ ∀ q ∈ ws, A q.1 := by
  constructor
  · intro h
    refine ⟨?_, fun q hq => by obtain ⟨i, hi⟩ := List.getElem?_of_mem hq; exact h.2 i q hi⟩
    rw [List.Nodup, List.pairwise_iff_getElem]
    intro i j hi hj hij e
    rw [List.length_map] at hi hj
    rw [List.getElem_map, List.getElem_map] at e
    have := h.1 i j _ _ (List.getElem?_eq_getElem hi) (List.getElem?_eq_getElem hj) e
    omega
  · rintro ⟨h1, h2⟩
    rw [List.Nodup, List.pairwise_iff_getElem] at h1
    have key : ∀ (i j : Nat) (p q : Nat × va_E), ws[i]? = some p → ws[j]? = some q → i < j → p.1 ≠ q.1 := by
      intro i j p q hi hj hij e
      obtain ⟨hi1, hi2⟩ := List.getElem?_eq_some_iff.mp hi
      obtain ⟨hj1, hj2⟩ := List.getElem?_eq_some_iff.mp hj
      refine h1 i j (by rw [List.length_map]; exact hi1) (by rw [List.length_map]; exact hj1) hij ?_
      rw [List.getElem_map, List.getElem_map, hi2, hj2]
      exact e
    refine ⟨fun i j p q hi hj e => ?_, fun k q hk => h2 q (List.mem_of_getElem? hk)⟩
    rcases Nat.lt_trichotomy i j with g | g | g
    · exact absurd e (key i j p q hi hj g)
    · exact g
    · exact absurd e.symm (key j i q p hj hi g)
theorem x_D_perm (h : va_D A ws) (hp : ws.Perm ws') : va_D A ws' := by
  obtain ⟨h1, h2⟩ := x_D_iff.mp h
  exact x_D_iff.mpr ⟨(hp.map Prod.fst).nodup_iff.mp h1, fun q hq => h2 q (hp.mem_iff.mpr hq)⟩
theorem x_P_perm {H : Heap} (h : va_P D cl ws H) (hp : ws.Perm ws') : va_P D cl ws' H := x_mem_P fun q hq => x_P_mem h q (hp.mem_iff.mpr hq)
theorem x_A_iff {sz q : Nat} : va_A ws sz q ↔ q ∈ ws.map Prod.fst ∨ sz ≤ q := by
  constructor
  · rintro (⟨k, e, h⟩ | h)
    · exact Or.inl (List.mem_map.mpr ⟨_, List.mem_of_getElem? h, rfl⟩)
    · exact Or.inr h
  · rintro (h | h)
    · obtain ⟨x, hx, rfl⟩ := List.mem_map.mp h
      obtain ⟨i, hi⟩ := List.getElem?_of_mem hx
      exact Or.inl ⟨i, x.2, hi⟩
    · exact Or.inr h
theorem x_fr_P {wl w1 wr : va_W} {H : Heap} (h : va_P D cl (wl ++ (w1 ++ wr)) H) : va_P D cl w1 H := x_mem_P fun q hq => x_P_mem h q (by simp [hq])
theorem x_fr_D {wl w1 wr : va_W} (h : va_D A (wl ++ (w1 ++ wr))) : va_D A w1 := by
  obtain ⟨h1, h2⟩ := x_D_iff.mp h
  rw [List.map_append, List.map_append] at h1
  exact x_D_iff.mpr ⟨(List.nodup_append.mp (List.nodup_append.mp h1).2.1).1, fun q hq => h2 q (by simp [hq])⟩
theorem x_fr_join {wl w1 wr w2 : va_W} {H H1 : Heap} (hP : va_P D cl (wl ++ (w1 ++ wr)) H) (hD : va_D A (wl ++ (w1 ++ wr))) (hk : ∀ q : Nat, q < H.size → ¬ va_A w1 H.size q → H1[q]? = H[q]?) (hF : ∀ q, va_A w1 H.size q → A q) (hP1 : va_P D cl w2 H1) (hD1 : va_D (va_A w1 H.size) w2) : va_P D cl (wl ++ (w2 ++ wr)) H1 ∧ va_D A (wl ++ (w2 ++ wr)) := by
  obtain ⟨h1, h2⟩ := x_D_iff.mp hD
  obtain ⟨g1, g2⟩ := x_D_iff.mp hD1
  have hlt : ∀ q ∈ wl ++ (w1 ++ wr), q.1 < H.size := fun q hq => (x_P_mem hP q hq).lt
  rw [List.map_append, List.map_append] at h1
  obtain ⟨nl, nr, dl⟩ := List.nodup_append.mp h1
  obtain ⟨n1, nr', d1⟩ := List.nodup_append.mp nr
  have out1 : ∀ q ∈ wl, ¬ va_A w1 H.size q.1 := fun q hq hA => by
    rcases x_A_iff.mp hA with h | h
    · exact dl q.1 (List.mem_map.mpr ⟨q, hq, rfl⟩) q.1 (List.mem_append_left _ h) rfl
    · have := hlt q (by simp [hq]); omega
  have out2 : ∀ q ∈ wr, ¬ va_A w1 H.size q.1 := fun q hq hA => by
    rcases x_A_iff.mp hA with h | h
    · exact d1 q.1 h q.1 (List.mem_map.mpr ⟨q, hq, rfl⟩) rfl
    · have := hlt q (by simp [hq]); omega
  constructor
  · refine x_mem_P fun q hq => ?_
    rcases List.mem_append.mp hq with h | h
    · exact (x_P_mem hP q (by simp [h])).kept (hk q.1 (hlt q (by simp [h])) (out1 q h))
    · rcases List.mem_append.mp h with h | h
      · exact x_P_mem hP1 q h
      · exact (x_P_mem hP q (by simp [h])).kept (hk q.1 (hlt q (by simp [h])) (out2 q h))
  · refine x_D_iff.mpr ⟨?_, fun q hq => ?_⟩
    · rw [List.map_append, List.map_append]
      refine List.nodup_append.mpr ⟨nl, List.nodup_append.mpr ⟨g1, nr', ?_⟩, ?_⟩
      · intro a ha b hb e
        subst e
        obtain ⟨x, hx, rfl⟩ := List.mem_map.mp ha
        obtain ⟨y, hy, e⟩ := List.mem_map.mp hb
        exact out2 y hy (e ▸ g2 x hx)
      · intro a ha b hb e
        subst e
        obtain ⟨y, hy, e⟩ := List.mem_map.mp ha
        rcases List.mem_append.mp hb with h | h
        · obtain ⟨x, hx, e2⟩ := List.mem_map.mp h
          exact out1 y hy (by rw [e, ← e2]; exact g2 x hx)
        · exact dl a ha a (List.mem_append_right _ h) rfl
    · rcases List.mem_append.mp hq with h | h
      · exact h2 q (by simp [h])
      · rcases List.mem_append.mp h with h | h
        · exact hF _ (g2 q h)
        · exact h2 q (by simp [h])
theorem XC.frF (hC : XC p s m args c D cl tys A nL cc TB own) {wl w1 wr : va_W} {H : Heap} {locs : List Loc} (hD : va_D A (wl ++ (w1 ++ wr))) (hS : va_S A s.heap H locs) : ∀ q, va_A w1 H.size q → A q := fun q h => by
  rcases h with ⟨k, e, h⟩ | h
  · exact (x_fr_D hD).2 k (q, e) h
  · exact hC.2.2.1 q (Nat.le_trans hS.1 h)
theorem XC.frStart (hC : XC p s m args c D cl tys A nL cc TB own) {wl w1 wr : va_W} {H : Heap} {locs : List Loc} (hP : va_P D cl (wl ++ (w1 ++ wr)) H) (hD : va_D A (wl ++ (w1 ++ wr))) (hS : va_S A s.heap H locs) {U : State} (hU : U.heap = H) (hW : s.WarmedH U.vm) : XP D cl tys w1 H.size U := ⟨by rw [hU], by rw [hU]; exact x_fr_P hP, va_K.moved hW.alike hC.2.1, (x_fr_D hD).weaken (fun _ _ _ _ => trivial), by rw [hU]; exact ((hC.2.2.2.2.kept hS.2.1).narrow (hC.frF hD hS)).moved hW⟩
theorem x_ws (h : ws = ws') (k : XW p l e R s m args below meth c D cl A nL Q cells slots ws'  pc lv st) : XW p l e R s m args below meth c D cl A nL Q cells slots ws pc lv st := by subst h; exact k
theorem x_re (hp : ∀ H : Heap, va_P D cl ws H → va_P D cl ws' H) (hd : va_D A ws → va_D A ws') (k : XW p l e R s m args below meth c D cl A nL Q cells slots ws'  pc lv st) : XW p l e R s m args below meth c D cl A nL Q cells slots ws pc lv st := fun H locs ls hP hD hS hl => k H locs ls (hp H hP) (hd hD) hS hl
theorem x_new (hC : XC p s m args c D cl tys A nL cc TB own) {C : String} {T : u_T} {N ci index : Nat} (hin : ∀ w ∈ u_ws C T N, w ∈ TB) (ty : Nat → FieldType) (hty : ∀ k, k < N → parseFieldDescriptor (T k).2.2.1 = some (ty k)) (hcl : Cond.classLink own index C ∈ TB) (hinst : Cond.instantiable C N ∈ TB) (hini : Cond.initialized C ∈ TB) (hc : cl[ci]? = some (C, T, N)) {fs : List Value} (hfs : ∀ j, j < N → defaultValue (ty j) = vp_V fs j) (hcells : cells + 1 ≤ R.cells) (hslots : slots + N ≤ R.slots) (hd : decode cc pc = .ok (.new index, 3)) (k : ∀ q : Nat, XW p l e R s m args below meth c D cl A nL Q (cells + 1) (slots + N) (ws ++ [(q, .inr (ci, fs))]) (pc + 3) lv (.ref q :: st)) : XW p l e R s m args below meth c D cl A nL Q cells slots ws pc lv st := fun H locs ls hP hD hS hl => va_new hC.1.1 hC.1.2.1 hC.1.2.2.2.2 hin ty hty hC.1.2.2.2.1 (hC.ts hcl) (hC.ts hinst) (hC.ts hini) hC.2.1 hP hD hS hC.2.2.1 hc hfs hcells hslots hd (fun q H1 hP1 hD1 hS1 => k q H1 locs ls hP1 hD1 hS1 hl)
theorem x_newi (hC : XC p s m args c D cl tys A nL cc TB own) {n : Int32} (N : Nat) (t0 : Nat) {cA : ClassId} (ht : tys[t0]? = some (cA, .int)) (harr : Cond.arrayClass .int ∈ TB) (hn : ¬ n < 0) (hN : n.toNatClampNeg = N) (hbytes : N * 4 ≤ 536870912) (hcells : cells + 1 ≤ R.cells) (hslots : slots + N ≤ R.slots) (hd : decode cc pc = .ok (.newarray .int, 2)) (k : ∀ q : Nat, XW p l e R s m args below meth c D cl A nL Q (cells + 1) (slots + N) (ws ++ [(q, .inl (cA, N, .inl (fun _ => 0)))]) (pc + 2) lv (.ref q :: st)) : XW p l e R s m args below meth c D cl A nL Q cells slots ws pc lv (.int n :: st) := by
  intro H locs ls hP hD hS hl
  refine va_newa (ty := .int) (a0 := (N, .inl (fun _ => 0))) hC.1.1 hC.1.2.1 (atype := .int) (hC.ts harr) rfl hC.2.1 hP hD hS hC.2.2.1 (fun _ => rfl) hn hN hbytes hcells hslots hd (fun q cA' H1 hK1 hP1 hD1 hS1 => ?_)
  have e : cA' = cA := Option.some.inj (((hK1.2 tys.length (cA', .int) (by rw [List.getElem?_append_right (Nat.le_refl _), Nat.sub_self]; rfl)).2).symm.trans (hC.2.1.2 t0 _ ht).2)
  subst e
  exact k q H1 locs ls hP1 hD1 hS1 hl
theorem x_newl (hC : XC p s m args c D cl tys A nL cc TB own) {n : Int32} (N : Nat) (t0 : Nat) {cA : ClassId} (ht : tys[t0]? = some (cA, .long)) (harr : Cond.arrayClass .long ∈ TB) (hn : ¬ n < 0) (hN : n.toNatClampNeg = N) (hbytes : N * 8 ≤ 536870912) (hcells : cells + 1 ≤ R.cells) (hslots : slots + N ≤ R.slots) (hd : decode cc pc = .ok (.newarray .long, 2)) (k : ∀ q : Nat, XW p l e R s m args below meth c D cl A nL Q (cells + 1) (slots + N) (ws ++ [(q, .inl (cA, N, .inr (.inl (fun _ => 0))))]) (pc + 2) lv (.ref q :: st)) : XW p l e R s m args below meth c D cl A nL Q cells slots ws pc lv (.int n :: st) := by
  intro H locs ls hP hD hS hl
  refine va_newa (ty := .long) (a0 := (N, .inr (.inl (fun _ => 0)))) hC.1.1 hC.1.2.1 (atype := .long) (hC.ts harr) rfl hC.2.1 hP hD hS hC.2.2.1 (fun _ => rfl) hn hN hbytes hcells hslots hd (fun q cA' H1 hK1 hP1 hD1 hS1 => ?_)
  have e : cA' = cA := Option.some.inj (((hK1.2 tys.length (cA', .long) (by rw [List.getElem?_append_right (Nat.le_refl _), Nat.sub_self]; rfl)).2).symm.trans (hC.2.1.2 t0 _ ht).2)
  subst e
  exact k q H1 locs ls hP1 hD1 hS1 hl
theorem vr_outer (c : ClassId) (N h0 : Nat) : ∀ i : Nat, Jvm.Free.Multi.outerC c N h0 i = arrV c N (fun j => va_rf (if j < i then some (h0 + 1 + j) else none))
  | 0 => by
    show ({ cls := c, slots := Array.replicate N .null, vm := .none } : Cell) = _
    rw [arrV_new]
    refine congrArg (arrV c N) (funext fun j => ?_)
    simp [va_rf]
  | i + 1 => by
    show (Jvm.Free.Multi.outerC c N h0 i).setSlot i (.ref (h0 + 1 + i)) = _
    rw [vr_outer c N h0 i, arrV_store]
    refine congrArg (arrV c N) (funext fun j => ?_)
    by_cases e : j = i
    · subst e
      simp [updV, va_rf]
    · by_cases h : j < i
      · simp [updV, e, h, Nat.lt_succ_of_lt h]
      · simp [updV, e, h, show ¬ j < i + 1 by omega]
theorem x_arrV {cA : ClassId} {N : Nat} {f g : Nat → Value} (h : ∀ i, i < N → f i = g i) : arrV cA N f = arrV cA N g := by
  have e : (fun j : Fin N => f j.val) = fun j : Fin N => g j.val := funext fun j => h j.1 j.2
  show ({ cls := cA, slots := Array.ofFn (n := N) fun j => f j.val, vm := .none } : Cell) = { cls := cA, slots := Array.ofFn (n := N) fun j => g j.val, vm := .none }
  rw [e]
theorem x_outerC {cA : ClassId} {N : Nat} {f g : Nat → Option Nat} (h : ∀ i, i < N → f i = g i) : vp_cell cA (N, .inr (.inr (.inr (.inr f)))) = vp_cell cA (N, .inr (.inr (.inr (.inr g)))) := by
  rw [vp_cell_q, vp_cell_q]
  exact x_arrV (fun j hj => by rw [h j hj])
/-- the tables have the arrays of long[] -/
def XO (U : State) : Prop := (Cond.arrayOver (.array .long)).before #[] U = true
theorem XO.moved {u U : State} (hvm : u.vm.Alike U.vm) (h : XO u) : XO U := Jvm.Stand.arrayOver_alikeB hvm h
theorem XO.at {u : State} {a : Array Value} (h : XO u) : (Cond.arrayOver (.array .long)).before a u = true := Jvm.Stand.arrayOver_alikeB (Vm.Alike.refl u.vm) h
theorem x_blindO {av : List Value} {sz : Nat} : FrameBlind (va_Pc av (fun U => XP D cl tys ws sz U ∧ XO U)) := fun a U g mk q => by
  obtain ⟨q0, ⟨q1, qP, qK, qD, qE⟩, qN⟩ := q
  exact ⟨q0, ⟨q1, qP, va_K.moved (u := U) (U := U.calling g mk a) (Vm.Alike.refl U.vm) qK, qD, XEn.same (s := U) (U := U.calling g mk a) qE rfl⟩, XO.moved (u := U) (U := U.calling g mk a) (Vm.Alike.refl U.vm) qN⟩
theorem x_mna (hC : XC p s m args c D cl tys A nL cc TB own) {index : Nat} {cO cL : ClassId} (tO tL : Nat) (hO : tys[tO]? = some (cO, .array .long)) (hL : tys[tL]? = some (cL, .long)) (hcl : Cond.classLink own index "[[J" ∈ TB) (hover : XO s) (harr : Cond.arrayClass .long ∈ TB) {n k : Int32} (N K : Nat) (hn : ¬ n < 0) (hk : ¬ k < 0) (hN : n.toNatClampNeg = N) (hM : k.toNatClampNeg = K) (hb1 : N * 4 ≤ 536870912) (hb2 : K * 8 ≤ 536870912) (hcells : cells + (1 + N) ≤ R.cells) (hslots : slots + (N + N * K) ≤ R.slots) (hd : decode cc pc = .ok (.multianewarray index 2, 4)) (kk : ∀ h : Nat, XW p l e R s m args below meth c D cl A nL Q (cells + 1 + N) (slots + N + N * K) (ws ++ ((h, .inl (cO, N, .inr (.inr (.inr (.inr (fun i => some (h + 1 + i))))))) :: x_grid (fun i => i) cL (h + 1) N K (fun _ _ => 0))) (pc + 4) lv (.ref h :: st)) : XW p l e R s m args below meth c D cl A nL Q cells slots ws pc lv (.int k :: .int n :: st) := by
  subst hN
  subst hM
  intro H locs ls hP hD hS hl T hT Xs
  obtain ⟨vm₁, cA, comp, -, fA, fC, -, -, X', step⟩ := Xs.multianewarray2F (ty := .long) hC.1.1 hC.1.2.2.2.1 (hC.ts hcl) hover.at (hC.ts harr) (g := F0 m pc ls (.int k :: .int n :: st)) rfl (by rw [hC.1.2.1]; exact hd) rfl hn hk hb1 hb2 (by omega) rfl rfl hcells hslots
  have eO : cA = cO := Option.some.inj (fA.symm.trans (hC.2.1.2 tO _ hO).2)
  have eL : comp = cL := Option.some.inj (fC.symm.trans (hC.2.1.2 tL _ hL).2)
  subst eO
  subst eL
  generalize hF : Jvm.Free.Multi.fill (T.setVm vm₁) cA comp n.toNatClampNeg k.toNatClampNeg (defaultValue .long) n.toNatClampNeg = F at X' step
  have hTh : (T.setVm vm₁).heap = H := hT
  obtain ⟨f1, f2, -, -⟩ := Jvm.Free.Multi.fill_facts (T.setVm vm₁) cA comp n.toNatClampNeg k.toNatClampNeg (defaultValue .long) n.toNatClampNeg
  rw [hF, hTh] at f1 f2
  have hold : ∀ x : Nat, x < H.size → F.heap[x]? = H[x]? := fun x hx => by
    have := Jvm.Free.Multi.fill_old (T.setVm vm₁) cA comp n.toNatClampNeg k.toNatClampNeg (defaultValue .long) (a := x) (by rw [hTh]; exact hx) n.toNatClampNeg
    rw [hF, hTh] at this
    exact this
  have hrow : ∀ j : Nat, j < n.toNatClampNeg → F.heap[H.size + 1 + j]? = some (vp_cell comp (k.toNatClampNeg, .inr (.inl (fun _ => 0)))) := fun j hj => by
    have := Jvm.Free.Multi.fill_inner (T.setVm vm₁) cA comp n.toNatClampNeg k.toNatClampNeg (defaultValue .long) n.toNatClampNeg j hj
    rw [hF, hTh] at this
    rw [this]
    exact congrArg some (arrV_new comp k.toNatClampNeg (.long 0))
  have hout : Jvm.Free.Multi.outerC cA n.toNatClampNeg H.size n.toNatClampNeg = vp_cell cA (n.toNatClampNeg, .inr (.inr (.inr (.inr (fun i => some (H.size + 1 + i)))))) := by
    refine Eq.trans ?_ (x_outerC (f := fun i => if i < n.toNatClampNeg then some (H.size + 1 + i) else none) (fun i hi => by show (if _ then _ else _) = _; rw [if_pos hi]))
    rw [vp_cell_q]
    exact vr_outer cA n.toNatClampNeg H.size n.toNatClampNeg
  rw [hout] at f2
  have hgm : ∀ q ∈ x_grid (fun i => i) comp (H.size + 1) n.toNatClampNeg k.toNatClampNeg (fun _ _ => 0), ∃ i, i < n.toNatClampNeg ∧ q = (H.size + 1 + i, .inl (comp, k.toNatClampNeg, .inr (.inl (fun _ => 0)))) := fun q hq => by
    obtain ⟨i, hi, rfl⟩ := List.mem_map.mp hq
    exact ⟨i, List.mem_range.mp hi, rfl⟩
  have hP1 : va_P D cl (ws ++ ((H.size, .inl (cA, n.toNatClampNeg, .inr (.inr (.inr (.inr (fun i => some (H.size + 1 + i))))))) :: x_grid (fun i => i) comp (H.size + 1) n.toNatClampNeg k.toNatClampNeg (fun _ _ => 0))) F.heap := by
    refine x_mem_P fun q hq => ?_
    rcases List.mem_append.mp hq with h | h
    · exact (x_P_mem hP q h).kept (hold q.1 ((x_P_mem hP q h).lt))
    · rcases List.mem_cons.mp h with h | h
      · subst h; exact f2
      · obtain ⟨i, hi, rfl⟩ := hgm q h
        exact hrow i hi
  have hD1 : va_D A (ws ++ ((H.size, .inl (cA, n.toNatClampNeg, .inr (.inr (.inr (.inr (fun i => some (H.size + 1 + i))))))) :: x_grid (fun i => i) comp (H.size + 1) n.toNatClampNeg k.toNatClampNeg (fun _ _ => 0))) := by
    obtain ⟨d1, d2⟩ := x_D_iff.mp hD
    refine x_D_iff.mpr ⟨?_, fun q hq => ?_⟩
    · rw [List.map_append, List.map_cons]
      refine List.nodup_append.mpr ⟨d1, List.nodup_cons.mpr ⟨fun hm => ?_, ?_⟩, ?_⟩
      · obtain ⟨x, hx, e⟩ := List.mem_map.mp hm
        obtain ⟨i, hi, rfl⟩ := hgm x hx
        have e : H.size + 1 + i = H.size := e
        omega
      · rw [x_grid, List.map_map]
        refine List.Pairwise.map _ (R := (· ≠ ·)) (fun a b hab => ?_) List.nodup_range
        show H.size + 1 + a ≠ H.size + 1 + b
        omega
      · intro a ha b hb e
        subst e
        obtain ⟨x, hx, rfl⟩ := List.mem_map.mp ha
        have h9 := (x_P_mem hP x hx).lt
        rcases List.mem_cons.mp hb with h | h
        · have h : x.1 = H.size := h
          omega
        · obtain ⟨y, hy, e⟩ := List.mem_map.mp h
          obtain ⟨i, hi, rfl⟩ := hgm y hy
          have e : H.size + 1 + i = x.1 := e
          omega
    · rcases List.mem_append.mp hq with h | h
      · exact d2 q h
      · rcases List.mem_cons.mp h with h | h
        · subst h; exact hC.2.2.1 _ hS.1
        · obtain ⟨i, hi, rfl⟩ := hgm q h
          exact hC.2.2.1 _ (Nat.le_trans hS.1 (by show H.size ≤ H.size + 1 + i; omega))
  obtain ⟨t2, a1, b1⟩ := kk H.size F.heap locs ls hP1 hD1 ⟨Nat.le_trans hS.1 (by rw [f1]; omega), fun x h1 h2 => (hold x (Nat.lt_of_lt_of_le h1 hS.1)).trans (hS.2.1 x h1 h2), hS.2.2⟩ hl F rfl X'
  exact ⟨t2, step t2 (by rw [hT]; exact a1), b1⟩
theorem x_objInit (hC : XC p s m args c D cl tys A nL cc TB own) {idx a : Nat} (hlink : Cond.methodLink own idx Lib.objectInit ∈ TB) (hinst : Cond.instanceMethod Lib.objectInit ∈ TB) (hcode : Cond.code Lib.objectInit ⟨#[0xb1]⟩ 1 none ∈ TB) (hd : decode cc pc = .ok (.invokespecial idx, 3)) (hframes : 1 ≤ R.frames) (hlocals : (st.map fun v => v.category).sum + 12 ≤ R.locals) (k : XW p l e R s m args below meth c D cl A nL Q cells slots ws (pc + 3) lv st) : XW p l e R s m args below meth c D cl A nL Q cells slots ws pc lv (.ref a :: st) := fun H locs ls hP hD hS hl => W.objInit hC.1.1 hC.1.2.1 hC.1.2.2.2.1 (hC.ts hlink) (hC.ts hinst) (hC.ts hcode) (g := F0 m pc ls (.ref a :: st)) rfl (hl.1.trans hC.1.2.2.1.symm) rfl hd hframes (by show 2 * 0 + _ + 12 ≤ _; omega) (k H locs ls hP hD hS hl)
theorem x_vretP (hC : XC p s m args c D cl tys A nL cc TB own) {S : Type} {post : S → Prop} {u : S} {wf : S → va_W} {mc2 ms2 : Nat} (hmc : cells ≤ mc2) (hms : slots ≤ ms2) (hr : meth.sig.returnType = none) (hlocks : meth.locks = false) (hd : decode cc pc = .ok (.return_, 1)) (hq : post u) (hw : wf u = ws) : XW p l e R s m args below meth c D cl A nL (MQ below (va_Qv post (fun u t => XB D cl tys A (wf u) t) A) args s mc2 ms2 A) cells slots ws pc lv [] := by
  subst hw
  intro H locs ls hP hD hS hl
  exact W.widen hmc hms (W.vret hC.1.1 hC.1.2.1 hr (fun t ht hW => ⟨⟨u, rfl, hq, by rw [ht]; exact hP, va_K.moved hW.alike hC.2.1, hD⟩, hS.F ht⟩) hS.2.2 hd hlocks)
theorem x_metP {y : MethodName} {bytes : ByteArray} {maxL sz mc ms : Nat} {ret : Option FieldType} {rm : Room} {Qc : Array Value → State → Outcome → State → Prop} {free : Nat → Prop} (av : List Value) (hG : GoodIn TB TB) (hy : plainName y.cls = true) (hle : (lg_sl av).length ≤ maxL)
    (body : ∀ (p : Program) (e : Env) (s : State) (m : MethodId) (args : Array Value) (below : List Frame) (meth : Method) (c : Code), XC p s m args c D cl tys (va_A ws sz) maxL bytes TB y.cls → meth.sig.returnType = ret → meth.locks = false → meth.name = y.name → XO s → XW p l e rm s m args below meth c D cl (va_A ws sz) maxL (MQ below Qc args s mc ms free) 0 0 ws 0 (lv_args 0 av) []) :
    Met l y (Cond.code y bytes maxL ret :: TB) rm (va_Pc av (fun U => XP D cl tys ws sz U ∧ XO U)) Qc mc ms free := by
  refine Met.ofW (cc := bytes) (maxL := maxL) (ret := ret) hy rfl ?_
  intro p e s m args below meth c s₁ B hml hv
  obtain ⟨rfl, ⟨hsz, hP, hK, hD0, hE⟩, hO⟩ := hv
  have hts := atoms_spec (ws := Cond.code y bytes maxL ret :: TB) B.pre
  have hD := hD0.self (sz := sz)
  have hl := lv_entry av (n := maxL) hle
  rw [lg_entry_eq]
  exact body p e s m av.toArray below meth c ⟨⟨B.exec, B.bytes, hml, findClass_of_methodNamed B.named, fun w hw => hts w (List.mem_cons_of_mem _ hw)⟩, hK, fun q h => Or.inr (by omega), hG, hE⟩ B.returns B.notSynchronized (name_of_methodNamed B.named B.method).1 hO s.heap [] _ hP hD va_S.rf hl
theorem x_callI (hC : XC p s m args c D cl tys A nL cc TB own) {S : Type} {wf wf2 : S → va_W} {wl w1 wr : va_W} {y : MethodName} {bytes : ByteArray} {maxL index b : Nat} {rm : Room} {post : S → Prop} (As : List Value) (hws : ws = wl ++ (w1 ++ wr)) (hw2 : ∀ u, wl ++ (wf u ++ wr) = wf2 u) (hM : ∀ sz : Nat, Met l y (Cond.code y bytes maxL none :: TB) rm (va_Pc (.ref b :: As) (fun U => XP D cl tys w1 sz U ∧ XO U)) (va_Qv post (fun u t => XB D cl tys (va_A w1 sz) (wf u) t) (va_A w1 sz)) rm.cells rm.slots (va_A w1 sz)) (hfr : rm.frames + 1 ≤ R.frames) (hlo : 8 + (maxL + 11) + rm.locals ≤ R.locals) (hcode : Cond.code y bytes maxL none ∈ TB) (hini : Cond.initialized y.cls ∈ TB) (hlink : Cond.methodLink own index y ∈ TB) (hy : (y.cls ≠ "java/lang/invoke/MethodHandle" ∧ y.cls ≠ "java/lang/invoke/VarHandle")) (n : Nat) (hn : As.length = n) (hlen : (parseMethodDescriptor y.desc).map (fun d => d.parameters.length) = some n) (hf : cells + rm.cells ≤ R.cells ∧ slots + rm.slots ≤ R.slots) (hst : (st.map fun v => v.category).sum ≤ 8) (hO : XO s) (hnm : y.name = "<init>") (hinst : Cond.instanceMethod y ∈ TB) {st0 : List Value} (hstk : st0 = As.reverse ++ .ref b :: st) (hd : decode cc pc = .ok (.invokespecial index, 3)) (k : ∀ u : S, post u → XW p l e R s m args below meth c D cl A nL Q (cells + rm.cells) (slots + rm.slots) (wf2 u) (pc + 3) lv st) : XW p l e R s m args below meth c D cl A nL Q cells slots ws pc lv st0 := by
  subst hws
  intro H locs ls hP hD hS hl
  refine va_callv (va_runI (bytes := bytes) (maxL := maxL) (As := As) (rest := st) hC.1 (hM H.size) ⟨⟨rfl, rfl, hfr, hlo, hC.words hcode, List.mem_cons_self, hC.ts hcode, hC.ts hini, hy, fun sig h => by (rw [h] at hlen; exact (Option.some.inj hlen).symm), hC.ts hlink⟩, hnm, hC.ts hinst⟩ ⟨x_blindO, fun U hU hW => ⟨rfl, hC.frStart hP hD hS hU hW, hO.moved hW.alike⟩⟩ rfl hn hl.1 hstk (lv_room hst) hd hf) hS (fun q _ h => hC.frF hD hS q h) (hC.frF hD hS) (fun u t H1 locs1 ht hvm hw hB hz1 hk1 hS1 => ?_)
  obtain ⟨j1, j2⟩ := x_fr_join hP hD hk1 (hC.frF hD hS) (w2 := wf u) (by rw [← ht]; exact hB.1) hB.2.2
  rw [hw2 u] at j1 j2
  exact k u hw H1 locs1 ls j1 j2 hS1 hl
/-- the pairs of exceptions of which the first is not the second -/
def x_nc : List (String × String) := (List.range 4).flatMap (fun i => ((List.range 4).filter (fun j => i != j)).map (fun j => (x_ex i, x_ex j)))
def XN (U : State) : Prop := ∀ q ∈ x_nc, va_Nc q.1 q.2 U
theorem x_fVi (hC : XC p s m args c D cl tys A nL cc TB own) {S : Type} {wf wf2 : S → va_W} {wl w1 wr : va_W} {Qt : Nat → Prop} {y : MethodName} {bytes : ByteArray} {maxL index : Nat} {ret : Option FieldType} {rm : Room} {b q0 ci : Nat} {fs : List Value} {C : String} {TT : u_T} {N : Nat} {post : Int32 → S → Prop} (As : List Value) (hws : ws = wl ++ (w1 ++ wr)) (hw2 : ∀ u, wl ++ (wf u ++ wr) = wf2 u) (hM : ∀ sz : Nat, vx_Met l y (Cond.code y bytes maxL ret :: TB) rm (va_Pc (.ref b :: As) (XP D cl tys w1 sz)) (va_Qi post (fun u t => XB D cl tys (va_A w1 sz) (wf u) t) (va_A w1 sz)) (XT D cl tys (va_A w1 sz) w1 Qt) rm.cells rm.slots (va_A w1 sz)) (hfr : rm.frames + 1 ≤ R.frames) (hlo : 8 + (maxL + 11) + rm.locals ≤ R.locals) (hcode : Cond.code y bytes maxL ret ∈ TB) (hini : Cond.initialized y.cls ∈ TB) (hlink : Cond.methodLink own index y ∈ TB) (hy : (y.cls ≠ "java/lang/invoke/MethodHandle" ∧ y.cls ≠ "java/lang/invoke/VarHandle")) (n : Nat) (hn : As.length = n) (hlen : (parseMethodDescriptor y.desc).map (fun d => d.parameters.length) = some n) (hf : cells + rm.cells ≤ R.cells ∧ slots + rm.slots ≤ R.slots) (hst : (st.map fun v => v.category).sum ≤ 8) (hinst : Cond.instanceMethod y ∈ TB) (hsel : Cond.selects C y y ∈ TB) (he : w1[q0]? = some (b, .inr (ci, fs))) (hc : cl[ci]? = some (C, TT, N)) {st0 : List Value} (hstk : st0 = As.reverse ++ .ref b :: st) (hd : decode cc pc = .ok (.invokevirtual index, 3)) (hno : ∀ k, ¬ Qt k) (k : ∀ (r : Int32) (u : S), post r u → XW p l e R s m args below meth c D cl A nL Q (cells + rm.cells) (slots + rm.slots) (wf2 u) (pc + 3) lv (.int r :: st)) : XW p l e R s m args below meth c D cl A nL Q cells slots ws pc lv st0 := by
  subst hws
  intro H locs ls hP hD hS hl
  refine vx_calli (vx_runV (C := C) (bytes := bytes) (maxL := maxL) (ret := ret) (As := As) (rest := st) hC.1 (hM H.size) ⟨⟨rfl, rfl, hfr, hlo, hC.words hcode, List.mem_cons_self, hC.ts hcode, hC.ts hini, hy, fun sig h => by (rw [h] at hlen; exact (Option.some.inj hlen).symm), hC.ts hlink⟩, hC.ts hinst, hC.ts hsel⟩ ⟨x_blind, va_recv hC.2.1 (x_fr_P hP) hc he, fun U hU hW => ⟨rfl, hC.frStart hP hD hS hU hW⟩⟩ rfl hn hl.1 hstk (lv_room hst) hd hf) hS (fun q _ h => hC.frF hD hS q h) (hC.frF hD hS) (fun q _ h => hC.frF hD hS q h) (fun E ce q9 k9 t H1 locs1 ht hvm hp => absurd hp (hno k9)) (fun r u t H1 locs1 ht hvm hw hB hz1 hk1 hS1 => ?_)
  obtain ⟨j1, j2⟩ := x_fr_join hP hD hk1 (hC.frF hD hS) (w2 := wf u) (by rw [← ht]; exact hB.1) hB.2.2
  rw [hw2 u] at j1 j2
  exact k r u hw H1 locs1 ls j1 j2 hS1 hl
theorem x_fVci (hC : XC p s m args c D cl tys A nL cc TB own) {S : Type} {wf wf2 : S → va_W} {wl w1 wr : va_W} {Qt : Nat → Prop} {y : MethodName} {bytes : ByteArray} {maxL index : Nat} {ret : Option FieldType} {rm : Room} {b q0 ci : Nat} {fs : List Value} {C : String} {TT : u_T} {N : Nat} {post : Int32 → S → Prop} (As : List Value) (hws : ws = wl ++ (w1 ++ wr)) (hw2 : ∀ u, wl ++ (wf u ++ wr) = wf2 u) (hM : ∀ sz : Nat, vx_Met l y (Cond.code y bytes maxL ret :: TB) rm (va_Pc (.ref b :: As) (XP D cl tys w1 sz)) (va_Qi post (fun u t => XB D cl tys (va_A w1 sz) (wf u) t) (va_A w1 sz)) (XT D cl tys (va_A w1 sz) w1 Qt) rm.cells rm.slots (va_A w1 sz)) (hfr : rm.frames + 1 ≤ R.frames) (hlo : 8 + (maxL + 11) + rm.locals ≤ R.locals) (hcode : Cond.code y bytes maxL ret ∈ TB) (hini : Cond.initialized y.cls ∈ TB) (hlink : Cond.methodLink own index y ∈ TB) (hy : (y.cls ≠ "java/lang/invoke/MethodHandle" ∧ y.cls ≠ "java/lang/invoke/VarHandle")) (n : Nat) (hn : As.length = n) (hlen : (parseMethodDescriptor y.desc).map (fun d => d.parameters.length) = some n) (hf : cells + rm.cells ≤ R.cells ∧ slots + rm.slots ≤ R.slots) (hst : (st.map fun v => v.category).sum ≤ 8) (hinst : Cond.instanceMethod y ∈ TB) (hsel : Cond.selects C y y ∈ TB) (he : w1[q0]? = some (b, .inr (ci, fs))) (hc : cl[ci]? = some (C, TT, N)) {st0 : List Value} (hstk : st0 = As.reverse ++ .ref b :: st) (hd : decode cc pc = .ok (.invokevirtual index, 3)) (hN : XN s) (hX : ∀ kx : Nat, Qt kx → ∃ (pre : List ExceptionTableEntry) (x : ExceptionTableEntry) (suf : List ExceptionTableEntry) (name : String), c.exceptionTable.toList = pre ++ x :: suf ∧ (∀ z ∈ pre, covers z pc = false ∨ (z.catchType ≠ 0 ∧ ∃ nm : String, Cond.classLink own z.catchType nm ∈ TB ∧ (x_ex kx, nm) ∈ x_nc)) ∧ covers x pc = true ∧ x.catchType ≠ 0 ∧ Cond.classLink own x.catchType name ∈ TB ∧ Cond.castable (x_ex kx) name ∈ TBX ∧ ∀ q : Nat, XW p l e R s m args below meth c D cl A nL Q (cells + rm.cells) (slots + rm.slots) ws x.handlerPc lv [.ref q]) (k : ∀ (r : Int32) (u : S), post r u → XW p l e R s m args below meth c D cl A nL Q (cells + rm.cells) (slots + rm.slots) (wf2 u) (pc + 3) lv (.int r :: st)) : XW p l e R s m args below meth c D cl A nL Q cells slots ws pc lv st0 := by
  subst hws
  intro H locs ls hP hD hS hl
  refine vx_calli (vx_runV (C := C) (bytes := bytes) (maxL := maxL) (ret := ret) (As := As) (rest := st) hC.1 (hM H.size) ⟨⟨rfl, rfl, hfr, hlo, hC.words hcode, List.mem_cons_self, hC.ts hcode, hC.ts hini, hy, fun sig h => by (rw [h] at hlen; exact (Option.some.inj hlen).symm), hC.ts hlink⟩, hC.ts hinst, hC.ts hsel⟩ ⟨x_blind, va_recv hC.2.1 (x_fr_P hP) hc he, fun U hU hW => ⟨rfl, hC.frStart hP hD hS hU hW⟩⟩ rfl hn hl.1 hstk (lv_room hst) hd hf) hS (fun q _ h => hC.frF hD hS q h) (hC.frF hD hS) (fun q _ h => hC.frF hD hS q h) (fun E ce q9 k9 t H1 locs1 ht hvm hp hB hz1 hk1 hS1 hce hcv hcl => ?_) (fun r u t H1 locs1 ht hvm hw hB hz1 hk1 hS1 => ?_)
  · obtain ⟨rfl, hB1, -, hB3⟩ := hB
    obtain ⟨pre, x, suf, name, hsplit, hpass, hcov, h0, hl1, hcast, kq⟩ := hX k9 hp
    obtain ⟨j1, j2⟩ := x_fr_join hP hD hk1 (hC.frF hD hS) (w2 := w1) (by rw [← ht]; exact hB1) hB3
    exact vx_catch hC.1.2.2.2.1 pre x suf hsplit (fun z hz => (hpass z hz).imp id (fun ⟨a1, nm, a2, a3⟩ => ⟨a1, nm, hC.ts a2, hN _ a3⟩)) hcov h0 (hC.ts hl1) (TBX_at hcast (State.WarmedH.refl s) (hC.2.2.2.2.2.2.1 _ hcast)) hce hcv hcl (kq q9 H1 locs1 ls j1 j2 hS1 hl)
  · obtain ⟨j1, j2⟩ := x_fr_join hP hD hk1 (hC.frF hD hS) (w2 := wf u) (by rw [← ht]; exact hB.1) hB.2.2
    rw [hw2 u] at j1 j2
    exact k r u hw H1 locs1 ls j1 j2 hS1 hl
theorem x_fVl (hC : XC p s m args c D cl tys A nL cc TB own) {S : Type} {wf wf2 : S → va_W} {wl w1 wr : va_W} {Qt : Nat → Prop} {y : MethodName} {bytes : ByteArray} {maxL index : Nat} {ret : Option FieldType} {rm : Room} {b q0 ci : Nat} {fs : List Value} {C : String} {TT : u_T} {N : Nat} {post : Int64 → S → Prop} (As : List Value) (hws : ws = wl ++ (w1 ++ wr)) (hw2 : ∀ u, wl ++ (wf u ++ wr) = wf2 u) (hM : ∀ sz : Nat, vx_Met l y (Cond.code y bytes maxL ret :: TB) rm (va_Pc (.ref b :: As) (XP D cl tys w1 sz)) (va_Ql post (fun u t => XB D cl tys (va_A w1 sz) (wf u) t) (va_A w1 sz)) (XT D cl tys (va_A w1 sz) w1 Qt) rm.cells rm.slots (va_A w1 sz)) (hfr : rm.frames + 1 ≤ R.frames) (hlo : 8 + (maxL + 11) + rm.locals ≤ R.locals) (hcode : Cond.code y bytes maxL ret ∈ TB) (hini : Cond.initialized y.cls ∈ TB) (hlink : Cond.methodLink own index y ∈ TB) (hy : (y.cls ≠ "java/lang/invoke/MethodHandle" ∧ y.cls ≠ "java/lang/invoke/VarHandle")) (n : Nat) (hn : As.length = n) (hlen : (parseMethodDescriptor y.desc).map (fun d => d.parameters.length) = some n) (hf : cells + rm.cells ≤ R.cells ∧ slots + rm.slots ≤ R.slots) (hst : (st.map fun v => v.category).sum ≤ 8) (hinst : Cond.instanceMethod y ∈ TB) (hsel : Cond.selects C y y ∈ TB) (he : w1[q0]? = some (b, .inr (ci, fs))) (hc : cl[ci]? = some (C, TT, N)) {st0 : List Value} (hstk : st0 = As.reverse ++ .ref b :: st) (hd : decode cc pc = .ok (.invokevirtual index, 3)) (hno : ∀ k, ¬ Qt k) (k : ∀ (r : Int64) (u : S), post r u → XW p l e R s m args below meth c D cl A nL Q (cells + rm.cells) (slots + rm.slots) (wf2 u) (pc + 3) lv (.long r :: st)) : XW p l e R s m args below meth c D cl A nL Q cells slots ws pc lv st0 := by
  subst hws
  intro H locs ls hP hD hS hl
  refine vx_calll (vx_runV (C := C) (bytes := bytes) (maxL := maxL) (ret := ret) (As := As) (rest := st) hC.1 (hM H.size) ⟨⟨rfl, rfl, hfr, hlo, hC.words hcode, List.mem_cons_self, hC.ts hcode, hC.ts hini, hy, fun sig h => by (rw [h] at hlen; exact (Option.some.inj hlen).symm), hC.ts hlink⟩, hC.ts hinst, hC.ts hsel⟩ ⟨x_blind, va_recv hC.2.1 (x_fr_P hP) hc he, fun U hU hW => ⟨rfl, hC.frStart hP hD hS hU hW⟩⟩ rfl hn hl.1 hstk (lv_room hst) hd hf) hS (fun q _ h => hC.frF hD hS q h) (hC.frF hD hS) (fun q _ h => hC.frF hD hS q h) (fun E ce q9 k9 t H1 locs1 ht hvm hp => absurd hp (hno k9)) (fun r u t H1 locs1 ht hvm hw hB hz1 hk1 hS1 => ?_)
  obtain ⟨j1, j2⟩ := x_fr_join hP hD hk1 (hC.frF hD hS) (w2 := wf u) (by rw [← ht]; exact hB.1) hB.2.2
  rw [hw2 u] at j1 j2
  exact k r u hw H1 locs1 ls j1 j2 hS1 hl
theorem x_fVcl (hC : XC p s m args c D cl tys A nL cc TB own) {S : Type} {wf wf2 : S → va_W} {wl w1 wr : va_W} {Qt : Nat → Prop} {y : MethodName} {bytes : ByteArray} {maxL index : Nat} {ret : Option FieldType} {rm : Room} {b q0 ci : Nat} {fs : List Value} {C : String} {TT : u_T} {N : Nat} {post : Int64 → S → Prop} (As : List Value) (hws : ws = wl ++ (w1 ++ wr)) (hw2 : ∀ u, wl ++ (wf u ++ wr) = wf2 u) (hM : ∀ sz : Nat, vx_Met l y (Cond.code y bytes maxL ret :: TB) rm (va_Pc (.ref b :: As) (XP D cl tys w1 sz)) (va_Ql post (fun u t => XB D cl tys (va_A w1 sz) (wf u) t) (va_A w1 sz)) (XT D cl tys (va_A w1 sz) w1 Qt) rm.cells rm.slots (va_A w1 sz)) (hfr : rm.frames + 1 ≤ R.frames) (hlo : 8 + (maxL + 11) + rm.locals ≤ R.locals) (hcode : Cond.code y bytes maxL ret ∈ TB) (hini : Cond.initialized y.cls ∈ TB) (hlink : Cond.methodLink own index y ∈ TB) (hy : (y.cls ≠ "java/lang/invoke/MethodHandle" ∧ y.cls ≠ "java/lang/invoke/VarHandle")) (n : Nat) (hn : As.length = n) (hlen : (parseMethodDescriptor y.desc).map (fun d => d.parameters.length) = some n) (hf : cells + rm.cells ≤ R.cells ∧ slots + rm.slots ≤ R.slots) (hst : (st.map fun v => v.category).sum ≤ 8) (hinst : Cond.instanceMethod y ∈ TB) (hsel : Cond.selects C y y ∈ TB) (he : w1[q0]? = some (b, .inr (ci, fs))) (hc : cl[ci]? = some (C, TT, N)) {st0 : List Value} (hstk : st0 = As.reverse ++ .ref b :: st) (hd : decode cc pc = .ok (.invokevirtual index, 3)) (hN : XN s) (hX : ∀ kx : Nat, Qt kx → ∃ (pre : List ExceptionTableEntry) (x : ExceptionTableEntry) (suf : List ExceptionTableEntry) (name : String), c.exceptionTable.toList = pre ++ x :: suf ∧ (∀ z ∈ pre, covers z pc = false ∨ (z.catchType ≠ 0 ∧ ∃ nm : String, Cond.classLink own z.catchType nm ∈ TB ∧ (x_ex kx, nm) ∈ x_nc)) ∧ covers x pc = true ∧ x.catchType ≠ 0 ∧ Cond.classLink own x.catchType name ∈ TB ∧ Cond.castable (x_ex kx) name ∈ TBX ∧ ∀ q : Nat, XW p l e R s m args below meth c D cl A nL Q (cells + rm.cells) (slots + rm.slots) ws x.handlerPc lv [.ref q]) (k : ∀ (r : Int64) (u : S), post r u → XW p l e R s m args below meth c D cl A nL Q (cells + rm.cells) (slots + rm.slots) (wf2 u) (pc + 3) lv (.long r :: st)) : XW p l e R s m args below meth c D cl A nL Q cells slots ws pc lv st0 := by
  subst hws
  intro H locs ls hP hD hS hl
  refine vx_calll (vx_runV (C := C) (bytes := bytes) (maxL := maxL) (ret := ret) (As := As) (rest := st) hC.1 (hM H.size) ⟨⟨rfl, rfl, hfr, hlo, hC.words hcode, List.mem_cons_self, hC.ts hcode, hC.ts hini, hy, fun sig h => by (rw [h] at hlen; exact (Option.some.inj hlen).symm), hC.ts hlink⟩, hC.ts hinst, hC.ts hsel⟩ ⟨x_blind, va_recv hC.2.1 (x_fr_P hP) hc he, fun U hU hW => ⟨rfl, hC.frStart hP hD hS hU hW⟩⟩ rfl hn hl.1 hstk (lv_room hst) hd hf) hS (fun q _ h => hC.frF hD hS q h) (hC.frF hD hS) (fun q _ h => hC.frF hD hS q h) (fun E ce q9 k9 t H1 locs1 ht hvm hp hB hz1 hk1 hS1 hce hcv hcl => ?_) (fun r u t H1 locs1 ht hvm hw hB hz1 hk1 hS1 => ?_)
  · obtain ⟨rfl, hB1, -, hB3⟩ := hB
    obtain ⟨pre, x, suf, name, hsplit, hpass, hcov, h0, hl1, hcast, kq⟩ := hX k9 hp
    obtain ⟨j1, j2⟩ := x_fr_join hP hD hk1 (hC.frF hD hS) (w2 := w1) (by rw [← ht]; exact hB1) hB3
    exact vx_catch hC.1.2.2.2.1 pre x suf hsplit (fun z hz => (hpass z hz).imp id (fun ⟨a1, nm, a2, a3⟩ => ⟨a1, nm, hC.ts a2, hN _ a3⟩)) hcov h0 (hC.ts hl1) (TBX_at hcast (State.WarmedH.refl s) (hC.2.2.2.2.2.2.1 _ hcast)) hce hcv hcl (kq q9 H1 locs1 ls j1 j2 hS1 hl)
  · obtain ⟨j1, j2⟩ := x_fr_join hP hD hk1 (hC.frF hD hS) (w2 := wf u) (by rw [← ht]; exact hB.1) hB.2.2
    rw [hw2 u] at j1 j2
    exact k r u hw H1 locs1 ls j1 j2 hS1 hl
theorem x_blindN {av : List Value} {sz : Nat} : FrameBlind (va_Pc av (fun U => XP D cl tys ws sz U ∧ XN U)) := fun a U g mk q => by
  obtain ⟨q0, ⟨q1, qP, qK, qD, qE⟩, qN⟩ := q
  exact ⟨q0, ⟨q1, qP, va_K.moved (u := U) (U := U.calling g mk a) (Vm.Alike.refl U.vm) qK, qD, XEn.same (s := U) (U := U.calling g mk a) qE rfl⟩, fun q hq => va_Nc.moved (u := U) (U := U.calling g mk a) (Vm.Alike.refl U.vm) (qN q hq)⟩
theorem x_metH {y : MethodName} {bytes : ByteArray} {maxL sz mc ms : Nat} {ret : Option FieldType} {hh : List (Nat × Nat × Nat × Nat)} {rm : Room} {Qc : Array Value → State → Outcome → State → Prop} {XQ : String → State → State → Prop} {free : Nat → Prop} (av : List Value) (hG : GoodIn TB TB) (hy : plainName y.cls = true) (hle : (lg_sl av).length ≤ maxL)
    (body : ∀ (p : Program) (e : Env) (s : State) (m : MethodId) (args : Array Value) (below : List Frame) (meth : Method) (c : Code), XC p s m args c D cl tys (va_A ws sz) maxL bytes TB y.cls → meth.sig.returnType = ret → meth.locks = false → c.exceptionTable.toList = tableOf hh → XN s → XW p l e rm s m args below meth c D cl (va_A ws sz) maxL (vx_MQ below Qc XQ args s mc ms free) 0 0 ws 0 (lv_args 0 av) []) :
    vx_Met l y (Cond.codeWith y bytes maxL ret hh :: TB) rm (va_Pc av (fun U => XP D cl tys ws sz U ∧ XN U)) Qc XQ mc ms free := by
  refine vx_ofWH (cc := bytes) (maxL := maxL) (ret := ret) (hh := hh) hy rfl ?_
  intro p e s m args below meth c s₁ B hml hv
  obtain ⟨rfl, ⟨hsz, hP, hK, hD0, hE⟩, hN⟩ := hv
  have hts := atoms_spec (ws := Cond.codeWith y bytes maxL ret hh :: TB) B.pre
  have htab := vx_table (x := y) B (hts _ List.mem_cons_self)
  have hD := hD0.self (sz := sz)
  have hl := lv_entry av (n := maxL) hle
  rw [lg_entry_eq]
  exact body p e s m av.toArray below meth c ⟨⟨B.exec, B.bytes, hml, findClass_of_methodNamed B.named, fun w hw => hts w (List.mem_cons_of_mem _ hw)⟩, hK, fun q h => Or.inr (by omega), hG, hE⟩ B.returns B.notSynchronized htab hN s.heap [] _ hP hD va_S.rf hl
theorem x_goodW {w : Cond} (hcode : w ∈ TB) (hG : GoodIn TB TB) : GoodIn (w :: TB) (w :: TB) := by
  intro v hw
  rcases List.mem_cons.mp hw with h | h
  · subst h; exact ⟨List.mem_cons_self, (hG _ hcode).2⟩
  · exact ⟨List.mem_cons_of_mem _ h, (hG _ h).2⟩
theorem x_fSi (hC : XC p s m args c D cl tys A nL cc TB own) {S : Type} {wf wf2 : S → va_W} {wl w1 wr : va_W} {Qt : Nat → Prop} {y : MethodName} {bytes : ByteArray} {maxL index : Nat} {ret : Option FieldType} {hh : List (Nat × Nat × Nat × Nat)} {rm : Room} {post : Int32 → S → Prop} (As : List Value) (hws : ws = wl ++ (w1 ++ wr)) (hw2 : ∀ u, wl ++ (wf u ++ wr) = wf2 u) (hM : ∀ sz : Nat, vx_Met l y (Cond.codeWith y bytes maxL ret hh :: TB) rm (va_Pc As (fun U => XP D cl tys w1 sz U ∧ XN U)) (va_Qi post (fun u t => XB D cl tys (va_A w1 sz) (wf u) t) (va_A w1 sz)) (XT D cl tys (va_A w1 sz) w1 Qt) rm.cells rm.slots (va_A w1 sz)) (hfr : rm.frames + 1 ≤ R.frames) (hlo : 8 + (maxL + 11) + rm.locals ≤ R.locals) (hcode : Cond.codeWith y bytes maxL ret hh ∈ TB) (hini : Cond.initialized y.cls ∈ TB) (hlink : Cond.methodLink own index y ∈ TB) (hy : (y.cls ≠ "java/lang/invoke/MethodHandle" ∧ y.cls ≠ "java/lang/invoke/VarHandle")) (n : Nat) (hn : As.length = n) (hlen : (parseMethodDescriptor y.desc).map (fun d => d.parameters.length) = some n) (hf : cells + rm.cells ≤ R.cells ∧ slots + rm.slots ≤ R.slots) (hst : (st.map fun v => v.category).sum ≤ 8) (hstat : Cond.static y ∈ TB) {st0 : List Value} (hstk : st0 = As.reverse ++ st) (hd : decode cc pc = .ok (.invokestatic index, 3)) (hN : XN s) (hno : ∀ k, ¬ Qt k) (k : ∀ (r : Int32) (u : S), post r u → XW p l e R s m args below meth c D cl A nL Q (cells + rm.cells) (slots + rm.slots) (wf2 u) (pc + 3) lv (.int r :: st)) : XW p l e R s m args below meth c D cl A nL Q cells slots ws pc lv st0 := by
  subst hws
  intro H locs ls hP hD hS hl
  refine vx_calli (vx_runSX (hh := hh) (bytes := bytes) (maxL := maxL) (ret := ret) (As := As) (rest := st) hC.1 (hM H.size) ⟨⟨rfl, rfl, hfr, hlo, pay_in (fun w hw => by
    rcases List.mem_cons.mp hw with h | h
    · rw [h]; exact hC.ts hcode
    · exact hC.ts h) (x_goodW hcode hC.2.2.2.1), List.mem_cons_self⟩, hC.ts hcode, hC.ts hini, hy, fun sig h => by (rw [h] at hlen; exact (Option.some.inj hlen).symm), hC.ts hlink, hC.ts hstat⟩ ⟨x_blindN, fun U hU hW => ⟨rfl, hC.frStart hP hD hS hU hW, fun q hq => va_Nc.moved hW.alike (hN q hq)⟩⟩ rfl hn hl.1 hstk (lv_room hst) hd hf) hS (fun q _ h => hC.frF hD hS q h) (hC.frF hD hS) (fun q _ h => hC.frF hD hS q h) (fun E ce q9 k9 t H1 locs1 ht hvm hp => absurd hp (hno k9)) (fun r u t H1 locs1 ht hvm hw hB hz1 hk1 hS1 => ?_)
  obtain ⟨j1, j2⟩ := x_fr_join hP hD hk1 (hC.frF hD hS) (w2 := wf u) (by rw [← ht]; exact hB.1) hB.2.2
  rw [hw2 u] at j1 j2
  exact k r u hw H1 locs1 ls j1 j2 hS1 hl
theorem x_sld (hC : XC p s m args c D cl tys A nL cc TB own) {b L : Nat} {xs : Nat → Int32} (hX : va_X b L xs s s.heap) (hbl : b < s.heap.size) (hbA : ¬ A b) {i : Int32} (hin : vp_in i L) (hd : decode cc pc = .ok (.iaload, 1)) (k : XW p l e R s m args below meth c D cl A nL Q cells slots ws (pc + 1) lv (.int (xs i.toNatClampNeg) :: st)) : XW p l e R s m args below meth c D cl A nL Q cells slots ws pc lv (.int i :: .ref b :: st) := fun H locs ls hP hD hS hl => va_sld hC.1.1 hC.1.2.1 hX hbl hbA hS hin hd (k H locs ls hP hD hS hl)
theorem x_slen (hC : XC p s m args c D cl tys A nL cc TB own) {b L : Nat} {xs : Nat → Int32} (hX : va_X b L xs s s.heap) (hbl : b < s.heap.size) (hbA : ¬ A b) (hd : decode cc pc = .ok (.arraylength, 1)) (k : XW p l e R s m args below meth c D cl A nL Q cells slots ws (pc + 1) lv (.int (Int32.ofNat L) :: st)) : XW p l e R s m args below meth c D cl A nL Q cells slots ws pc lv (.ref b :: st) := fun H locs ls hP hD hS hl => va_slen hC.1.1 hC.1.2.1 hX hbl hbA hS hd (k H locs ls hP hD hS hl)
end XR
