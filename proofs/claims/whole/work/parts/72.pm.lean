/-! the events that a bag implies -/
def EPut (itm knd plc : Nat → Int32) (B I : Int32) (f : Nat) : Prop := itm f = I ∧ knd f = 1 ∧ plc f = B
def ETake (itm knd plc : Nat → Int32) (B I : Int32) (f : Nat) : Prop := itm f = I ∧ knd f = 2 ∧ plc f = B
def EGood (ne : Nat) (itm knd plc : Nat → Int32) (tm : Nat → Int64) (B I : Int32) (e f : Nat) : Prop := EPut itm knd plc B I f ∧ tm f < tm e ∧ ∀ t, 1 ≤ t → t ≤ ne → ETake itm knd plc B I t → ELt plc tm f t → ¬ tm t < tm e
def EImp (ne : Nat) (itm knd plc : Nat → Int32) (tm : Nat → Int64) (B I : Int32) (e : Nat) : Prop := ∃ f, 1 ≤ f ∧ f ≤ ne ∧ EGood ne itm knd plc tm B I e f
def EIn (itm knd plc : Nat → Int32) (B I : Int32) (p : Nat → Nat) (k : Nat) : Prop := ∃ j, j < k ∧ EPut itm knd plc B I (p j) ∧ ∀ i, j < i → i < k → ¬ ETake itm knd plc B I (p i)
def OInv (itm knd plc : Nat → Int32) (tm : Nat → Int64) (B I : Int32) (f v w : Nat) : Prop := (w = 0 ∧ ∀ t, 1 ≤ t → t < v → ETake itm knd plc B I t → ¬ ELt plc tm f t) ∨ (1 ≤ w ∧ w < v ∧ ETake itm knd plc B I w ∧ ELt plc tm f w ∧ ∀ t, 1 ≤ t → t < v → ETake itm knd plc B I t → ELt plc tm f t → ¬ ELt plc tm t w)
section IM
variable {src itm knd plc : Nat → Int32} {clk moff tm : Nat → Int64} {n ne : Nat} {B I : Int32}
theorem ou5 {f : Nat} {Qx : Int32 → Prop} (hT : ETm n ne src clk moff tm) (f1 : 1 ≤ f) (f2 : f ≤ ne) (hi : itm f = I) (h0 : (∀ t, 1 ≤ t → t ≤ ne → ETake itm knd plc B I t → ¬ ELt plc tm f t) → Qx 0) (h1 : ∀ t, 1 ≤ t → t ≤ ne → ETake itm knd plc B I t → ELt plc tm f t → (∀ s, 1 ≤ s → s ≤ ne → ETake itm knd plc B I s → ELt plc tm f s → ¬ ELt plc tm s t) → Qx (Int32.ofNat t)) : ∀ (m v w : Nat), ne + 2 ≤ v + m → 1 ≤ v → v ≤ ne + 1 → OInv itm knd plc tm B I f v w → M_outOf_L5 (Int32.ofNat f) B (Int32.ofNat ne) src itm knd plc clk moff Qx m (Int32.ofNat w) (Int32.ofNat v) := by
  have hne := hT.2.1
  intro m
  induction m with
  | zero => intro v w g1 g2; omega
  | succ m ih =>
    intro v w g1 g2 g3 g4
    unfold M_outOf_L5
    rw [i3_lt (by omega) (by omega), i3_nat (by omega), i3_nat (by omega), i3_succ, hi]
    have hw : w < v := by
      rcases g4 with ⟨q, -⟩ | ⟨-, q, -⟩
      · omega
      · exact q
    have vv : vp_in (Int32.ofNat v) 301 ∨ ne < v := by
      by_cases q : ne < v
      · exact Or.inr q
      · exact Or.inl (i3_in (by omega) (by omega))
    refine ⟨fun h => ?_, fun h => ?_⟩
    · rcases g4 with ⟨rfl, q⟩ | ⟨q1, q2, q3, q4, q5⟩
      · exact h0 (fun t t1 t2 => q t t1 (by omega))
      · exact h1 w q1 (by omega) q3 q4 (fun s s1 s2 => q5 s s1 (by omega))
    have hv : vp_in (Int32.ofNat v) 301 := i3_in (by omega) (by omega)
    have hf : vp_in (Int32.ofNat f) 301 := i3_in (by omega) (by omega)
    have no : ¬ (ETake itm knd plc B I v ∧ ELt plc tm f v ∧ (w = 0 ∨ ELt plc tm v w)) → M_outOf_L5 (Int32.ofNat f) B (Int32.ofNat ne) src itm knd plc clk moff Qx m (Int32.ofNat w) (Int32.ofNat (v + 1)) := fun c => ih (v + 1) w (by omega) (by omega) (by omega) (by
      rcases g4 with ⟨q0, q⟩ | ⟨q1, q2, q3, q4, q5⟩
      · refine Or.inl ⟨q0, fun t t1 t2 t3 t4 => ?_⟩
        by_cases r : t = v
        · subst r; exact c ⟨t3, t4, Or.inl q0⟩
        · exact q t t1 (by omega) t3 t4
      · refine Or.inr ⟨q1, by omega, q3, q4, fun t t1 t2 t3 t4 t5 => ?_⟩
        by_cases r : t = v
        · subst r; exact c ⟨t3, t4, Or.inr t5⟩
        · exact q5 t t1 (by omega) t3 t4 t5)
    have ys : ETake itm knd plc B I v → ELt plc tm f v → (w = 0 ∨ ELt plc tm v w) → M_outOf_L5 (Int32.ofNat f) B (Int32.ofNat ne) src itm knd plc clk moff Qx m (Int32.ofNat v) (Int32.ofNat (v + 1)) := fun c1 c2 c3 => ih (v + 1) v (by omega) (by omega) (by omega) (Or.inr ⟨g2, by omega, c1, c2, fun t t1 t2 t3 t4 t5 => by
      by_cases r : t = v
      · subst r; exact t5.irr
      · rcases g4 with ⟨q0, q⟩ | ⟨q1, q2, q3, q4, q5⟩
        · exact q t t1 (by omega) t3 t4
        · rcases c3 with z | z
          · omega
          · exact q5 t t1 (by omega) t3 t4 (t5.trans z)⟩)
    refine ⟨hv, hf, fun c => no (fun q => c q.1.1), fun k1 => ⟨hv, fun c => no (fun q => c q.1.2.1), fun k2 => ⟨hv, fun c => no (fun q => c q.1.2.2), fun k3 => before_of hT f1 f2 g2 (by omega) (fun b => ⟨fun q => absurd q (by decide), fun _ => ?_⟩) (fun b => ⟨fun _ => no (fun q => b q.2.1), fun q => absurd rfl q⟩)⟩⟩⟩
    rw [show (Int32.ofNat w = 0) ↔ w = 0 from i3_inj (b := 0) (by omega) (by omega)]
    refine ⟨fun z => ys ⟨k1, k2, k3⟩ b (Or.inl z), fun z => before_of hT g2 (by omega) (by omega) (by omega) (fun d => ⟨fun q => absurd q (by decide), fun _ => ys ⟨k1, k2, k3⟩ b (Or.inr d)⟩) (fun d => ⟨fun _ => no (fun q => ?_), fun q => absurd rfl q⟩)⟩
    rcases q.2.2 with r | r
    · exact z r
    · exact d r
theorem im3 {e : Nat} {Qr : Int32 → Unit → Prop} {Qx : Prop} (hT : ETm n ne src clk moff tm) (e1 : 1 ≤ e) (e2 : e ≤ ne) (h1 : EImp ne itm knd plc tm B I e → Qr 1 ()) (h0 : ¬ EImp ne itm knd plc tm B I e → Qx) : ∀ (m v : Nat), ne + 2 ≤ v + m → 1 ≤ v → v ≤ ne + 1 → (∀ f, 1 ≤ f → f < v → ¬ EGood ne itm knd plc tm B I e f) → M_isImplied_L3 (Int32.ofNat e) B I (Int32.ofNat ne) src itm knd plc clk moff Qr Qx m (Int32.ofNat v) := by
  have hne := hT.2.1
  intro m
  induction m with
  | zero => intro v g1 g2; omega
  | succ m ih =>
    intro v g1 g2 g3 g4
    unfold M_isImplied_L3
    rw [i3_lt (by omega) (by omega), i3_nat (by omega), i3_succ]
    refine ⟨fun h => h0 (fun ⟨f, q1, q2, q3⟩ => g4 f q1 (by omega) q3), fun h => ?_⟩
    have hv : vp_in (Int32.ofNat v) 301 := i3_in (by omega) (by omega)
    have no : ¬ EGood ne itm knd plc tm B I e v → M_isImplied_L3 (Int32.ofNat e) B I (Int32.ofNat ne) src itm knd plc clk moff Qr Qx m (Int32.ofNat (v + 1)) := fun c => ih (v + 1) (by omega) (by omega) (by omega) (fun f q1 q2 => by
      by_cases r : f = v
      · rw [r]; exact c
      · exact g4 f q1 (by omega))
    refine ⟨hv, fun c => no (fun q => c q.1.1), fun k1 => ⟨hv, fun c => no (fun q => c q.1.2.1), fun k2 => ⟨hv, fun c => no (fun q => c q.1.2.2), fun k3 => timeOf_of hT e1 e2 (timeOf_of hT g2 (by omega) ⟨fun q => no (fun z => ?_), fun q => ?_⟩)⟩⟩⟩
    · have := z.2.1
      rw [lt64] at this; rw [le64] at q; omega
    have q' : tm v < tm e := by rw [lt64]; rw [le64] at q; omega
    refine ⟨ne + 2, ou5 hT g2 (by omega) k1 (fun hz => ⟨fun _ => h1 ⟨v, g2, by omega, ⟨k1, k2, k3⟩, q', fun t t1 t2 t3 t4 => absurd t4 (hz t t1 t2 t3)⟩, fun z => absurd rfl z⟩) (fun t t1 t2 t3 t4 t5 => ⟨fun z => ?_, fun _ => timeOf_of hT e1 e2 (timeOf_of hT t1 t2 ⟨fun z => no (fun g => g.2.2 t t1 t2 t3 t4 z), fun z => h1 ⟨v, g2, by omega, ⟨k1, k2, k3⟩, q', fun s s1 s2 s3 s4 s5 => t5 s s1 s2 s3 s4 (Or.inl ?_)⟩⟩)⟩) (ne + 2) 1 0 (by omega) (by omega) (by omega) (Or.inl ⟨rfl, fun t t1 t2 => by omega⟩)⟩
    · rw [show (Int32.ofNat t = 0) ↔ t = 0 from i3_inj (b := 0) (by omega) (by omega)] at z
      omega
    · rw [lt64] at *; omega
theorem im58 {C : Nat → Bool} {Qx : Int32 → Prop} (hT : ETm n ne src clk moff tm) (hC : ∀ j, C j = true ↔ itm (j + 1) = B ∧ EImp ne itm knd plc tm B I (j + 1)) (hq : Qx (Int32.ofNat (EC C ne))) : ∀ (m k : Nat), ne + 1 ≤ k + m → k ≤ ne → M_implied_L58 B I (Int32.ofNat ne) src itm knd plc clk moff Qx m (Int32.ofNat (EC C k)) (Int32.ofNat (k + 1)) := by
  have hne := hT.2.1
  intro m
  induction m with
  | zero => intro k g1 g2; omega
  | succ m ih =>
    intro k g1 g2
    unfold M_implied_L58
    rw [i3_lt (by omega) (by omega), i3_nat (by omega), i3_succ, i3_succ]
    refine ⟨fun h => ?_, fun h => ?_⟩
    · rw [show k = ne by omega]; exact hq
    have no : ¬ (itm (k + 1) = B ∧ EImp ne itm knd plc tm B I (k + 1)) → M_implied_L58 B I (Int32.ofNat ne) src itm knd plc clk moff Qx m (Int32.ofNat (EC C k)) (Int32.ofNat (k + 1 + 1)) := fun c => by
      have hf : C k = false := by cases hb : C k; rfl; exact absurd ((hC k).mp hb) c
      rw [← EC_no hf]; exact ih (k + 1) (by omega) (by omega)
    refine ⟨i3_in (by omega) (by omega), fun c => no (fun q => c q.1), fun c => ⟨ne + 2, im3 hT (by omega) (by omega) (fun b => ⟨fun q => absurd q (by decide), fun _ => ?_⟩) (fun b => ⟨fun _ => no (fun q => b q.2), fun q => absurd rfl q⟩) (ne + 2) 1 (by omega) (by omega) (by omega) (fun f q1 q2 => by omega)⟩⟩
    rw [← EC_yes ((hC k).mpr ⟨c, b⟩)]
    exact ih (k + 1) (by omega) (by omega)
theorem EIn.put {p : Nat → Nat} {k : Nat} (h : EPut itm knd plc B I (p k)) : EIn itm knd plc B I p (k + 1) := ⟨k, by omega, h, fun i h1 h2 => by omega⟩
theorem EIn.take {p : Nat → Nat} {k : Nat} (h : ETake itm knd plc B I (p k)) : ¬ EIn itm knd plc B I p (k + 1) := by
  rintro ⟨j, h1, h2, h3⟩
  by_cases q : j = k
  · rw [q] at h2
    exact absurd (h2.2.1.symm.trans h.2.1) (by decide)
  · exact h3 k (by omega) (by omega) h
theorem EIn.same {p : Nat → Nat} {k : Nat} (h1 : ¬ EPut itm knd plc B I (p k)) (h2 : ¬ ETake itm knd plc B I (p k)) : EIn itm knd plc B I p (k + 1) ↔ EIn itm knd plc B I p k := by
  constructor
  · rintro ⟨j, j1, j2, j3⟩
    by_cases q : j = k
    · rw [q] at j2; exact absurd j2 h1
    · exact ⟨j, by omega, j2, fun i i1 i2 => j3 i i1 (by omega)⟩
  · rintro ⟨j, j1, j2, j3⟩
    refine ⟨j, by omega, j2, fun i i1 i2 => ?_⟩
    by_cases q : i = k
    · rw [q]; exact h2
    · exact j3 i i1 (by omega)
theorem EImp.congr {e f : Nat} (h : tm e = tm f) : EImp ne itm knd plc tm B I e ↔ EImp ne itm knd plc tm B I f := by
  unfold EImp EGood
  rw [h]
theorem EIn.imp {p : Nat → Nat} {k : Nat} (hp1 : ∀ i, i < ne → 1 ≤ p i ∧ p i ≤ ne) (hp2 : ∀ i j, i < j → j < ne → ELt plc tm (p i) (p j)) (hp3 : ∀ e, 1 ≤ e → e ≤ ne → ∃ i, i < ne ∧ p i = e) (hk : k < ne) (hg : k = 0 ∨ ¬ tm (p k) = tm (p (k - 1))) : EIn itm knd plc B I p k ↔ EImp ne itm knd plc tm B I (p k) := by
  have so : ∀ i j, i ≤ j → j < ne → (tm (p i)).toInt ≤ (tm (p j)).toInt := fun i j h1 h2 => by
    by_cases q : i = j
    · rw [q]; exact Int.le_refl _
    · have := hp2 i j (by omega) h2
      unfold ELt at this
      rw [lt64, eq64] at this
      omega
  have lo : ∀ j, j < k → tm (p j) < tm (p k) := fun j hj => by
    have q1 := so j (k - 1) (by omega) (by omega)
    have q2 := so (k - 1) k (by omega) hk
    rcases hg with z | z
    · omega
    · rw [eq64] at z; rw [lt64]; omega
  have hi : ∀ j, j < ne → tm (p j) < tm (p k) → j < k := fun j hj h => by
    by_cases q : j < k
    · exact q
    · have := so k j (by omega) hj
      rw [lt64] at h; omega
  have il : ∀ i j, i < ne → j < ne → ELt plc tm (p i) (p j) → i < j := fun i j h1 h2 h => by
    rcases Nat.lt_trichotomy i j with r | r | r
    · exact r
    · rw [r] at h; exact absurd h (fun z => z.irr)
    · exact absurd (h.trans (hp2 j i r h1)) (fun z => z.irr)
  constructor
  · rintro ⟨j, j1, j2, j3⟩
    have b := hp1 j (by omega)
    refine ⟨p j, b.1, b.2, j2, lo j j1, fun t t1 t2 t3 t4 t5 => ?_⟩
    obtain ⟨i, i1, rfl⟩ := hp3 t t1 t2
    exact j3 i (il j i (by omega) i1 t4) (hi i i1 t5) t3
  · rintro ⟨f, f1, f2, f3, f4, f5⟩
    obtain ⟨j, j1, rfl⟩ := hp3 f f1 f2
    refine ⟨j, hi j j1 f4, f3, fun i i1 i2 i3 => ?_⟩
    have b := hp1 i (by omega)
    exact f5 (p i) b.1 b.2 i3 (hp2 j i i1 (by omega)) (lo i i2)
def ITail (B I : Int32) (itm knd plc : Nat → Int32) (o : Int32) (x : Nat) (v4 v5 v6 : Int32) (K : Int32 → Int32 → Int32 → Prop) : Prop := vp_in o 301 ∧ ((¬ itm x = B → vp_in o 301 ∧ ((¬ itm x = I → K v4 v5 v6) ∧ (itm x = I → vp_in o 301 ∧ ((¬ plc x = B → K v4 v5 v6) ∧ (plc x = B → vp_in o 301 ∧ Timeline_isInsideAfter_wp (knd x) v6 (fun (r : Int32) (_ : Unit) => K v4 v5 r)))))) ∧ (itm x = B → ((v5 = 0 → K v4 v5 v6) ∧ (¬ v5 = 0 → K (v4 + 1) v5 v6))))
theorem ci12 {ord : Nat → Int32} {p : Nat → Nat} {P : Nat → Bool} {Qx : Int32 → Prop} (hne : ne ≤ 300) (hBI : ¬ B = I) (ho : ∀ i, i < ne → ord i = Int32.ofNat (p i) ∧ 1 ≤ p i ∧ p i ≤ ne) (hp2 : ∀ i j, i < j → j < ne → ELt plc tm (p i) (p j)) (hp3 : ∀ e, 1 ≤ e → e ≤ ne → ∃ i, i < ne ∧ p i = e) (hP : ∀ j, P j = true ↔ itm (p j) = B ∧ EImp ne itm knd plc tm B I (p j)) (hq : Qx (Int32.ofNat (EC P ne))) : ∀ (m k : Nat) (w5 w6 : Int32), ne + 1 ≤ k + m → k ≤ ne → (¬ w6 = 0 ↔ EIn itm knd plc B I p k) → (k = 0 → w5 = 0) → (1 ≤ k → (¬ w5 = 0 ↔ EImp ne itm knd plc tm B I (p (k - 1)))) → Timeline_countImplied_1_L12 B I itm knd plc tm ord (Int32.ofNat ne) Qx m (Int32.ofNat (EC P k)) w5 w6 (Int32.ofNat k) := by
  intro m
  induction m with
  | zero => intro k w5 w6 g1 g2; omega
  | succ m ih =>
    intro k w5 w6 g1 g2 g3 g4 g5
    unfold Timeline_countImplied_1_L12
    rw [i3_le (by omega) (by omega)]
    refine ⟨fun h => by rw [show k = ne by omega]; exact hq, fun h => ?_⟩
    have hk : k < ne := by omega
    have hp1 : ∀ i, i < ne → 1 ≤ p i ∧ p i ≤ ne := fun i hi => (ho i hi).2
    obtain ⟨o1, o2, o3⟩ := ho k hk
    have vo : vp_in (Int32.ofNat (p k)) 301 := i3_in (by omega) (by omega)
    have tail : ∀ x5 : Int32, (¬ x5 = 0 ↔ EImp ne itm knd plc tm B I (p k)) → ITail B I itm knd plc (Int32.ofNat (p k)) (p k) (Int32.ofNat (EC P k)) x5 w6 (fun v4 v5 v6 => Timeline_countImplied_1_L12 B I itm knd plc tm ord (Int32.ofNat ne) Qx m v4 v5 v6 (Int32.ofNat (k + 1))) := fun x5 hx => by
      have nx : ∀ x6 : Int32, P k = false → (¬ x6 = 0 ↔ EIn itm knd plc B I p (k + 1)) → Timeline_countImplied_1_L12 B I itm knd plc tm ord (Int32.ofNat ne) Qx m (Int32.ofNat (EC P k)) x5 x6 (Int32.ofNat (k + 1)) := fun x6 hf h6 => by
        rw [← EC_no hf]
        exact ih (k + 1) x5 x6 (by omega) (by omega) h6 (fun q => by omega) (fun _ => by rw [show k + 1 - 1 = k by omega]; exact hx)
      have pf : ¬ (itm (p k) = B ∧ EImp ne itm knd plc tm B I (p k)) → P k = false := fun c => by cases hb : P k; rfl; exact absurd ((hP k).mp hb) c
      have sm : ¬ EPut itm knd plc B I (p k) → ¬ ETake itm knd plc B I (p k) → (¬ w6 = 0 ↔ EIn itm knd plc B I p (k + 1)) := fun c1 c2 => g3.trans (EIn.same c1 c2).symm
      unfold ITail Timeline_isInsideAfter_wp
      refine ⟨vo, fun c => ⟨vo, fun d => nx w6 (pf (fun q => c q.1)) (sm (fun q => d q.1) (fun q => d q.1)), fun d => ⟨vo, fun z => nx w6 (pf (fun q => c q.1)) (sm (fun q => z q.2.2) (fun q => z q.2.2)), fun z => ⟨vo, fun k1 => ⟨fun k2 => nx 0 (pf (fun q => c q.1)) ⟨fun q => absurd rfl q, fun q => absurd q (EIn.take ⟨d, k2, z⟩)⟩, fun k2 => ⟨fun u => nx 0 (pf (fun q => c q.1)) ?_, fun u => nx 1 (pf (fun q => c q.1)) ?_⟩⟩, fun k1 => nx 1 (pf (fun q => c q.1)) ⟨fun _ => EIn.put ⟨d, k1, z⟩, fun _ => by decide⟩⟩⟩⟩, fun c => ⟨fun d => nx w6 (pf (fun q => hx.mpr q.2 d)) (sm (fun q => hBI (c.symm.trans q.1)) (fun q => hBI (c.symm.trans q.1))), fun d => ?_⟩⟩
      · have := sm (fun q => k1 q.2.1) (fun q => k2 q.2.1)
        rw [u] at this; exact this
      · have := sm (fun q => k1 q.2.1) (fun q => k2 q.2.1)
        exact ⟨fun _ => this.mp u, fun _ => by decide⟩
      · rw [i3_succ, ← EC_yes ((hP k).mpr ⟨c, hx.mp d⟩)]
        exact ih (k + 1) x5 w6 (by omega) (by omega) (sm (fun q => hBI (c.symm.trans q.1)) (fun q => hBI (c.symm.trans q.1))) (fun q => by omega) (fun _ => by rw [show k + 1 - 1 = k by omega]; exact hx)
    rw [show Int32.ofNat k ≤ 0 ↔ k ≤ 0 from i3_le (b := 0) (by omega) (by omega), i3_nat (by omega), o1, i3_nat (show p k < 2147483648 by omega), i3_succ k]
    refine ⟨i3_in (by omega) (by omega), fun z => ?_, fun z => ?_⟩
    · have z0 : k = 0 := by omega
      refine tail w5 ⟨fun q => absurd (g4 z0) q, fun q => ?_⟩
      have q2 := (EIn.imp hp1 hp2 hp3 hk (Or.inl z0)).mpr q
      obtain ⟨j, j1, -⟩ := q2
      omega
    · have e1 : (Int32.ofNat k - 1).toInt = ((k - 1 : Nat) : Int) := pred32 (by omega) (by omega)
      have e2 : (Int32.ofNat k - 1).toNatClampNeg = k - 1 := by rw [nat32, e1]; omega
      obtain ⟨b1, b2, b3⟩ := ho (k - 1) (by omega)
      rw [e2, b1, i3_nat (show p (k - 1) < 2147483648 by omega)]
      refine ⟨vo, in_iff.mpr (by omega), i3_in (by omega) (by omega), fun t => ?_, fun t => ?_⟩
      · exact tail w5 ((g5 (by omega)).trans (EImp.congr t.symm))
      · exact tail w6 (g3.trans (EIn.imp hp1 hp2 hp3 hk (Or.inr t)))
end IM
set_option maxHeartbeats 1000000 in
theorem LC_9_pure (L : Nat) (xs : Nat → Int32) : ∀ (i : Int32) (sc : Int32) (sd : Int32) (src : (Nat → Int32)) (itm : (Nat → Int32)) (knd : (Nat → Int32)) (plc : (Nat → Int32)) (clk : (Nat → Int64)) (ec : Int32) (nf : (Nat → Int32)) (ns : (Nat → Int32)) (nc : Int32) (wt : (Nat → Nat → Int64)) (bd : (Nat → Nat → Int64)) (off : (Nat → Int64)) (row : (Nat → Int32)) (hw : (Nat → Nat → Int64)) (rl : Int32) (tm : (Nat → Int64)) (ord : (Nat → Int32)) (tc : Int32) (mth : Int32) (msc : Int32) (mec : Int32) (msrc : (Nat → Int32)) (mitm : (Nat → Int32)) (mknd : (Nat → Int32)) (mplc : (Nat → Int32)) (mclk : (Nat → Int64)) (mnc : Int32) (mnf : (Nat → Int32)) (mns : (Nat → Int32)) (msd : Int32) (mrl : Int32) (mrow : (Nat → Int32)) (mw : (Nat → Int64)) (mb : (Nat → Int64)) (mway : (Nat → Int64)) (moff : (Nat → Int64)) (out : Nat → Int64), LRange L i → EInv sc sd src itm knd plc clk ec nf ns nc wt bd off row hw rl tm ord tc mth msc mec msrc mitm mknd mplc mclk mnc mnf mns msd mrl mrow mw mb mway moff out → LC_9 L xs i EInv sc sd src itm knd plc clk ec nf ns nc wt bd off row hw rl tm ord tc mth msc mec msrc mitm mknd mplc mclk mnc mnf mns msd mrl mrow mw mb mway moff out := by
  intro i sc sd src itm knd plc clk ec nf ns nc wt bd off row hw rl tm ord tc mth msc mec msrc mitm mknd mplc mclk mnc mnf mns msd mrl mrow mw mb mway moff out hrg hinv
  obtain ⟨⟨rfl, rfl, rfl, rfl, rfl, rfl, rfl, rfl, rfl, rfl, rfl, rfl⟩, hsd, hring, n, ne, nn, ⟨hn, hne, hnn, rfl, rfl, rfl, hev, hnd⟩, hset⟩ := hinv
  unfold LC_9
  unfold L_implied_wp X_implied_wp M_thrown_wp M_implied_wp
  refine ⟨hrg.2.1, hrg.2.2.1, ?_⟩
  generalize (xs (i + 1).toNatClampNeg) = a1
  generalize (xs (i + 2).toNatClampNeg) = a2
  have c0 : (0 : Int64).toInt = 0 := rfl
  have c1 : (99 : Int64).toInt = 99 := rfl
  have c2 : (100 : Int64).toInt = 100 := rfl
  have c3 : (199 : Int64).toInt = 199 := rfl
  have c4 : (0 : Int32).toInt = 0 := rfl
  have c5 : (100 : Int32).toInt = 100 := rfl
  refine X_isBag_of (fun s1 s2 => ⟨fun _ => ⟨fun t => ⟨fun _ => ⟨hrg.2.1, hrg.2.2.1, M_within_of (fun _ _ => ⟨fun g => absurd g (by decide), fun _ => M_within_of (fun q1 _ => absurd t (by rw [w64, c0] at q1; rw [lt32, c4]; omega)) (fun _ => ⟨fun g => absurd rfl g, fun _ => ?_⟩)⟩) (fun q => absurd ⟨by rw [w64, c2]; omega, by rw [w64, c3]; omega⟩ q)⟩, fun k => absurd rfl k⟩, fun t => ⟨fun t2 => ?_, fun t2 => ⟨fun _ => ⟨hrg.2.1, hrg.2.2.1, M_within_of (fun _ _ => ⟨fun g => absurd g (by decide), fun _ => M_within_of (fun _ q1 => absurd (by rw [w64, c1] at q1; rw [lt32, c5]; omega) t2) (fun _ => ⟨fun g => absurd rfl g, fun _ => ?_⟩)⟩) (fun q => absurd ⟨by rw [w64, c2]; omega, by rw [w64, c3]; omega⟩ q)⟩, fun k => absurd rfl k⟩⟩⟩, fun g => absurd g (by decide)⟩) (fun hb => ⟨fun g => absurd rfl g, fun _ => ⟨fun _ => ⟨hrg.2.1, hrg.2.2.1, M_within_of (fun q1 q2 => absurd (by rw [w64, c2] at q1; rw [w64, c3] at q2; omega) hb) (fun _ => ⟨fun _ => ?_, fun g => absurd rfl g⟩)⟩, fun k => absurd rfl k⟩⟩)
  · unfold M_implied_B32 M_implied_B44
    exact ⟨fun _ => M_refused_1 ⟨fun g => absurd g (by decide), fun _ => (LFin rfl (fun h9 => absurd h9 (by decide)) ⟨⟨rfl, rfl, rfl, rfl, rfl, rfl, rfl, rfl, rfl, rfl, rfl, rfl⟩, hsd, hring, n, ne, nn, ⟨hn, hne, hnn, rfl, rfl, rfl, hev, hnd⟩, hset⟩)⟩, fun _ => M_refused_1 ⟨fun g => absurd g (by decide), fun _ => (LFin rfl (fun h9 => absurd h9 (by decide)) ⟨⟨rfl, rfl, rfl, rfl, rfl, rfl, rfl, rfl, rfl, rfl, rfl, rfl⟩, hsd, hring, n, ne, nn, ⟨hn, hne, hnn, rfl, rfl, rfl, hev, hnd⟩, hset⟩)⟩⟩
  · have hin1 : (100 : Int64).toInt ≤ a1.toInt64.toInt ∧ a1.toInt64.toInt ≤ (199 : Int64).toInt := by rw [w64, c2, c3]; omega
    have hin2 : (0 : Int64).toInt ≤ a2.toInt64.toInt ∧ a2.toInt64.toInt ≤ (99 : Int64).toInt := by
      rw [lt32, c4] at t; rw [lt32, c5] at t2; rw [w64, c0, c1]; omega
    have hBI : ¬ a1 = a2 := fun q => by
      rw [q] at s1; rw [lt32, c5] at t2; omega
    unfold X_checkSettled_wp
    refine ⟨fun g => ?_, fun g => ⟨fun k => absurd k (by decide), fun _ => ⟨fun _ => ⟨hrg.2.1, hrg.2.2.1, M_within_of (fun _ _ => ⟨fun g => absurd g (by decide), fun _ => M_within_of (fun _ _ => ⟨fun _ => ?_, fun g => absurd g (by decide)⟩) (fun q => absurd hin2 q)⟩) (fun q => absurd hin1 q)⟩, fun k => absurd rfl k⟩⟩⟩
    · obtain ⟨htc, -, hoff, htm, p, hp1, hp2, hp3⟩ := hset g
      subst htc
      have hT : ETm n ne src clk moff tm := ⟨hn, hne, fun e e1 e2 => ⟨(hev e e1 e2).1, by
        have hs := (hev e e1 e2).1
        rw [htm e e1 e2, hoff _ (by rw [nat32]; omega)]⟩⟩
      have hpb : ∀ i, i < ne → 1 ≤ p i ∧ p i ≤ ne := fun i hi => (hp1 i hi).2
      have ne' : ∀ i j, i < j → j < ne → p i ≠ p j := fun i j h1 h2 q => by
        have := hp2 i j h1 h2
        rw [q] at this
        exact this.irr
      have hz : ¬ (0 : Int32) = 0 ↔ EIn itm knd plc a1 a2 p 0 := ⟨fun q => absurd rfl q, fun ⟨j, j1, _⟩ => by omega⟩
      refine ⟨ne + 1, ci12 (P := fun j => @decide (itm (p j) = a1 ∧ EImp ne itm knd plc tm a1 a2 (p j)) (Classical.propDecidable _)) hne hBI hp1 hp2 hp3 (fun j => dec_iff _) ⟨hrg.2.1, hrg.2.2.1, M_within_of (fun _ _ => ⟨fun g => absurd g (by decide), fun _ => M_within_of (fun _ _ => ⟨fun _ => ?_, fun g => absurd g (by decide)⟩) (fun q => absurd hin2 q)⟩) (fun q => absurd hin1 q)⟩ (ne + 1) 0 0 0 (by omega) (by omega) hz (fun _ => rfl) (fun q => by omega)⟩
      unfold M_implied_B32 M_implied_B44
      refine ⟨fun _ => M_refused_0 ⟨fun _ => ⟨ne + 1, im58 (C := fun j => @decide (itm (j + 1) = a1 ∧ EImp ne itm knd plc tm a1 a2 (j + 1)) (Classical.propDecidable _)) hT (fun j => dec_iff _) ?_ (ne + 1) 0 (by omega) (by omega)⟩, fun g => absurd rfl g⟩, fun q => absurd q g⟩
      rw [← EC_perm (P := fun f => @decide (itm f = a1 ∧ EImp ne itm knd plc tm a1 a2 f) (Classical.propDecidable _)) hpb ne' hp3]
      exact LFin rfl (fun _ => updL0 out _) ⟨⟨rfl, rfl, rfl, rfl, rfl, rfl, rfl, rfl, rfl, rfl, rfl, rfl⟩, hsd, hring, n, ne, nn, ⟨hn, hne, hnn, rfl, rfl, rfl, hev, hnd⟩, hset⟩
    · unfold M_implied_B32 M_implied_B44
      exact ⟨fun q => absurd g q, fun _ => M_refused_2 ⟨fun g => absurd g (by decide), fun _ => (LFin rfl (fun h9 => absurd h9 (by decide)) ⟨⟨rfl, rfl, rfl, rfl, rfl, rfl, rfl, rfl, rfl, rfl, rfl, rfl⟩, hsd, hring, n, ne, nn, ⟨hn, hne, hnn, rfl, rfl, rfl, hev, hnd⟩, hset⟩)⟩⟩
  · unfold M_implied_B32 M_implied_B44
    exact ⟨fun _ => M_refused_1 ⟨fun g => absurd g (by decide), fun _ => (LFin rfl (fun h9 => absurd h9 (by decide)) ⟨⟨rfl, rfl, rfl, rfl, rfl, rfl, rfl, rfl, rfl, rfl, rfl, rfl⟩, hsd, hring, n, ne, nn, ⟨hn, hne, hnn, rfl, rfl, rfl, hev, hnd⟩, hset⟩)⟩, fun _ => M_refused_1 ⟨fun g => absurd g (by decide), fun _ => (LFin rfl (fun h9 => absurd h9 (by decide)) ⟨⟨rfl, rfl, rfl, rfl, rfl, rfl, rfl, rfl, rfl, rfl, rfl, rfl⟩, hsd, hring, n, ne, nn, ⟨hn, hne, hnn, rfl, rfl, rfl, hev, hnd⟩, hset⟩)⟩⟩
  · unfold M_implied_B32 M_implied_B44
    exact ⟨fun _ => M_refused_1 ⟨fun g => absurd g (by decide), fun _ => (LFin rfl (fun h9 => absurd h9 (by decide)) ⟨⟨rfl, rfl, rfl, rfl, rfl, rfl, rfl, rfl, rfl, rfl, rfl, rfl⟩, hsd, hring, n, ne, nn, ⟨hn, hne, hnn, rfl, rfl, rfl, hev, hnd⟩, hset⟩)⟩, fun _ => M_refused_1 ⟨fun g => absurd g (by decide), fun _ => (LFin rfl (fun h9 => absurd h9 (by decide)) ⟨⟨rfl, rfl, rfl, rfl, rfl, rfl, rfl, rfl, rfl, rfl, rfl, rfl⟩, hsd, hring, n, ne, nn, ⟨hn, hne, hnn, rfl, rfl, rfl, hev, hnd⟩, hset⟩)⟩⟩
