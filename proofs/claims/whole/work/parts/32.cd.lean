def x_ad (a q1 q2 q3 q4 q5 : Nat) (u1 u2 u3 u4 u5 : Nat → Nat) : Nat → Nat := fun k => if k < 20 then ([a, q1, u1 0, u1 1, u1 2, u1 3, u1 4, q2, u2 0, u2 1, q3, u3 0, u3 1, u3 2, q4, u4 0, u4 1, q5, u5 0, u5 1] : List Nat).getD k 0 else if k < 36 then u3 0 + 1 + (k - 20) else if k < 52 then u3 1 + 1 + (k - 36) else u4 1 + 1 + (k - 52)
theorem x_P_nil {D : va_G} {cl : List vw_C} {H : Heap} : va_P D cl [] H := fun _ _ h => by simp at h
theorem x_P_cons {D : va_G} {cl : List vw_C} {H : Heap} {q : Nat × va_E} {ws : va_W} (h : va_at D cl q H) (t : va_P D cl ws H) : va_P D cl (q :: ws) H := x_mem_P fun x hx => by
  rcases List.mem_cons.mp hx with e | e
  · rw [e]; exact h
  · exact x_P_mem t x e
theorem x_outer_at {D : va_G} {cl : List vw_C} {H : Heap} {a N : Nat} {cA : ClassId} {f g : Nat → Option Nat} (h : ∀ i, i < N → f i = g i) (k : va_at D cl (a, .inl (cA, N, .inr (.inr (.inr (.inr f))))) H) : va_at D cl (a, .inl (cA, N, .inr (.inr (.inr (.inr g))))) H := by
  have k : H[a]? = some (vp_cell cA (N, .inr (.inr (.inr (.inr f))))) := k
  show H[a]? = some (vp_cell cA (N, .inr (.inr (.inr (.inr g)))))
  rw [k, x_outerC h]
theorem x_grid_P {D : va_G} {cl : List vw_C} {H : Heap} {ad : Nat → Nat} {cL : ClassId} {base n k b2 : Nat} {M : Nat → Nat → Int64} (he : ∀ i, i < n → ad (base + i) = b2 + i) (h : va_P D cl (x_grid (fun i => i) cL b2 n k M) H) : va_P D cl (x_grid ad cL base n k M) H := x_mem_P fun q hq => by
  obtain ⟨i, hi, rfl⟩ := List.mem_map.mp hq
  have hi := List.mem_range.mp hi
  rw [he i hi]
  exact h i _ (x_grid_get hi)
theorem x_P_sub {D : va_G} {cl : List vw_C} {H : Heap} {ws w : va_W} (h : va_P D cl ws H) (hs : ∀ q ∈ w, q ∈ ws) : va_P D cl w H := x_mem_P fun q hq => x_P_mem h q (hs q hq)
theorem x_perm_D {A : Nat → Prop} {ws ws' : va_W} (hD : va_D A ws) (is : List Nat) (hn : va_nd is = true) (hs : is.map (fun i => (ws[i]?).map Prod.fst) = ws'.map (fun q => some q.1)) : va_D A ws' := by
  have key : ∀ (k : Nat) (q : Nat × va_E), ws'[k]? = some q → ∃ (i : Nat) (x : Nat × va_E), is[k]? = some i ∧ ws[i]? = some x ∧ x.1 = q.1 := by
    intro k q hk
    have h1 : (is.map (fun i => (ws[i]?).map Prod.fst))[k]? = some (some q.1) := by rw [hs, List.getElem?_map, hk]; rfl
    rw [List.getElem?_map] at h1
    obtain ⟨i, hi, h2⟩ := Option.map_eq_some_iff.mp h1
    obtain ⟨x, hx, h3⟩ := Option.map_eq_some_iff.mp h2
    exact ⟨i, x, hi, hx, h3⟩
  refine ⟨fun i j p q hi hj e => ?_, fun k q hk => ?_⟩
  · obtain ⟨i1, x1, a1, b1, c1⟩ := key i p hi
    obtain ⟨i2, x2, a2, b2, c2⟩ := key j q hj
    have := hD.1 i1 i2 x1 x2 b1 b2 (by rw [c1, c2]; exact e)
    subst this
    exact va_nd_inj is hn i j i1 a1 a2
  · obtain ⟨i, x, -, b, c⟩ := key k q hk
    rw [← c]
    exact hD.2 i x b
theorem x_ad_a {a q1 q2 q3 q4 q5 : Nat} {u1 u2 u3 u4 u5 : Nat → Nat} {i : Nat} (h : i < 16) : x_ad a q1 q2 q3 q4 q5 u1 u2 u3 u4 u5 (20 + i) = u3 0 + 1 + i := by
  show (if 20 + i < 20 then _ else _) = _
  rw [if_neg (by omega)]; rw [if_pos (by omega)]; omega
theorem x_ad_b {a q1 q2 q3 q4 q5 : Nat} {u1 u2 u3 u4 u5 : Nat → Nat} {i : Nat} (h : i < 16) : x_ad a q1 q2 q3 q4 q5 u1 u2 u3 u4 u5 (36 + i) = u3 1 + 1 + i := by
  show (if 36 + i < 20 then _ else _) = _
  rw [if_neg (by omega)]; rw [if_neg (by omega)]; rw [if_pos (by omega)]; omega
theorem x_ad_c {a q1 q2 q3 q4 q5 : Nat} {u1 u2 u3 u4 u5 : Nat → Nat} {i : Nat} (h : i < 17) : x_ad a q1 q2 q3 q4 q5 u1 u2 u3 u4 u5 (52 + i) = u4 1 + 1 + i := by
  show (if 52 + i < 20 then _ else _) = _
  rw [if_neg (by omega)]; rw [if_neg (by omega), if_neg (by omega)]; omega
set_option maxHeartbeats 4000000 in
set_option maxRecDepth 100000 in
theorem x_made_P {D : va_G} {cI cL cO : ClassId} {H : Heap} {a q1 q2 q3 q4 q5 : Nat} {u1 u2 u3 u4 u5 : Nat → Nat} (h : va_P D vwCl (((((([(a, .inr (0, [.ref q1, .ref q2, .ref q3, .ref q4, .ref q5, .int 0, .int 0]))] ++ w0Ev cI cL cO q1 u1) ++ w0Nd cI cL cO q2 u2) ++ w0Li cI cL cO q3 u3) ++ w0Rg cI cL cO q4 u4) ++ w0Tl cI cL cO q5 u5)) H) : va_P D vwCl (wX (x_ad a q1 q2 q3 q4 q5 u1 u2 u3 u4 u5) cI cL cO 0 0 (fun _ => 0) (fun _ => 0) (fun _ => 0) (fun _ => 0) (fun _ => 0) 0 (fun _ => 0) (fun _ => 0) 0 (fun _ _ => 0) (fun _ _ => 0) (fun _ => 0) (fun _ => 0) (fun _ _ => 0) 0 (fun _ => 0) (fun _ => 0) 0) H := by
  unfold wX
  refine va_P.app ?_ (va_P.app ?_ (va_P.app ?_ ?_))
  · refine x_P_cons (h 0 _ rfl) (x_P_cons (h 1 _ rfl) (x_P_cons (h 2 _ rfl) (x_P_cons (h 3 _ rfl) (x_P_cons (h 4 _ rfl) (x_P_cons (h 5 _ rfl) (x_P_cons (h 6 _ rfl) (x_P_cons (h 7 _ rfl) (x_P_cons (h 8 _ rfl) (x_P_cons (h 9 _ rfl) (x_P_cons (h 10 _ rfl) (x_P_cons (x_outer_at (g := fun i => some (x_ad a q1 q2 q3 q4 q5 u1 u2 u3 u4 u5 (20 + i))) (fun i hi => by show some _ = some _; rw [x_ad_a hi]) (h 11 _ rfl)) (x_P_cons (x_outer_at (g := fun i => some (x_ad a q1 q2 q3 q4 q5 u1 u2 u3 u4 u5 (36 + i))) (fun i hi => by show some _ = some _; rw [x_ad_b hi]) (h 28 _ rfl)) (x_P_cons (h 45 _ rfl) (x_P_cons (h 46 _ rfl) (x_P_cons (h 47 _ rfl) (x_P_cons (x_outer_at (g := fun i => some (x_ad a q1 q2 q3 q4 q5 u1 u2 u3 u4 u5 (52 + i))) (fun i hi => by show some _ = some _; rw [x_ad_c hi]) (h 48 _ rfl)) (x_P_cons (h 66 _ rfl) (x_P_cons (h 67 _ rfl) (x_P_cons (h 68 _ rfl) (x_P_nil))))))))))))))))))))
  · exact x_grid_P (b2 := u3 0 + 1) (fun i hi => by rw [x_ad_a hi]) (x_P_sub h (fun q hq => by simp [w0Li, hq]))
  · exact x_grid_P (b2 := u3 1 + 1) (fun i hi => by rw [x_ad_b hi]) (x_P_sub h (fun q hq => by simp [w0Li, hq]))
  · exact x_grid_P (b2 := u4 1 + 1) (fun i hi => by rw [x_ad_c hi]) (x_P_sub h (fun q hq => by simp [w0Rg, hq]))
set_option maxHeartbeats 4000000 in
set_option maxRecDepth 100000 in
theorem x_made_D {A : Nat → Prop} {cI cL cO : ClassId} {a q1 q2 q3 q4 q5 : Nat} {u1 u2 u3 u4 u5 : Nat → Nat} (h : va_D A (((((([(a, .inr (0, [.ref q1, .ref q2, .ref q3, .ref q4, .ref q5, .int 0, .int 0]))] ++ w0Ev cI cL cO q1 u1) ++ w0Nd cI cL cO q2 u2) ++ w0Li cI cL cO q3 u3) ++ w0Rg cI cL cO q4 u4) ++ w0Tl cI cL cO q5 u5))) : va_D A (wX (x_ad a q1 q2 q3 q4 q5 u1 u2 u3 u4 u5) cI cL cO 0 0 (fun _ => 0) (fun _ => 0) (fun _ => 0) (fun _ => 0) (fun _ => 0) 0 (fun _ => 0) (fun _ => 0) 0 (fun _ _ => 0) (fun _ _ => 0) (fun _ => 0) (fun _ => 0) (fun _ _ => 0) 0 (fun _ => 0) (fun _ => 0) 0) := x_perm_D h [0, 1, 2, 3, 4, 5, 6, 7, 8, 9, 10, 11, 28, 45, 46, 47, 48, 66, 67, 68, 12, 13, 14, 15, 16, 17, 18, 19, 20, 21, 22, 23, 24, 25, 26, 27, 29, 30, 31, 32, 33, 34, 35, 36, 37, 38, 39, 40, 41, 42, 43, 44, 49, 50, 51, 52, 53, 54, 55, 56, 57, 58, 59, 60, 61, 62, 63, 64, 65] (by decide) rfl
