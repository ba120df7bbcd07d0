/-! settle -/
theorem Low_of {w : Nat → Nat → Int64} {n : Nat} (hG : GW n w) {v : Nat → Nat → Int64} (k1 : ∀ a b, a < n → b < n → LA w a b (v a b)) (k2 : ∀ a b, a < n → b < n → v a b ≠ far → -131072000065536 ≤ (v a b).toInt ∧ (v a b).toInt ≤ 131072000065536) : Low w := by
  intro k x y z h
  cases k with
  | zero => obtain ⟨-, rfl⟩ := h; omega
  | succ k =>
    obtain ⟨hx, hy⟩ := Wk.lt hG h
    rcases k1 x y hx hy with ⟨-, q⟩ | ⟨q1, -, q2⟩
    · exact absurd h (q _ _)
    · have := q2 _ _ h
      have := (k2 x y hx hy q1).1
      omega
theorem diag_zero {w : Nat → Nat → Int64} {a : Nat} {d : Int64} (h : LA w a a d) (hN : ¬ Neg w) : d = 0 := by
  have z : (0 : Int64).toInt = 0 := rfl
  rcases h with ⟨-, q⟩ | ⟨-, ⟨k, q1⟩, q2⟩
  · exact absurd ⟨rfl, rfl⟩ (q 0 0)
  · have h1 := q2 0 0 ⟨rfl, rfl⟩
    have h2 : ¬ d.toInt < 0 := fun q => hN ⟨k, a, _, q1, q⟩
    rw [eq64, z]; omega
theorem RF.neg {w : Nat → Nat → Int64} {n k s : Nat} (h : RF w n k s) : Neg w := by
  obtain ⟨x, h1, h2⟩ := h.2.2.2.1
  exact ⟨k, s, x, h1, h2⟩
theorem M_settle_of {w : Nat → Nat → Int64} {n ne nn : Nat} {mth : Int32} {src : Nat → Int32} {clk : Nat → Int64} {nf ns : Nat → Int32} {msd mrl : Int32} {mrow : Nat → Int32} {mw mb mway moff : Nat → Int64} {Qr : Int32 → (Int32 × Int32 × Int32 × (Nat → Int32) × (Nat → Int64) × (Nat → Int64) × (Nat → Int64) × (Nat → Int64)) → Prop} (hE : EEv n ne nn src clk nf ns) (hw : w = Ew src clk nf ns nn) (hL : ¬ Neg w → Low w)
    (h1 : ∀ (j s0 : Nat) (r : Nat → Nat) (row : Nat → Int32) (mw' mway' : Nat → Int64), RF w n j s0 → Chain w j s0 r j → (∀ i, i < j → row i = Int32.ofNat (r i) ∧ r i < n) → Qr (-(Int32.ofNat j)) (0, 0, Int32.ofNat j, row, mw', mb, mway', moff))
    (h0 : ∀ (mw' mb' mway' moff' : Nat → Int64), ¬ Neg w → (∀ a b, a < 16 → b < 16 → LA w a b (mb' (16 * a + b))) → OffOk 16 (fun a b => mb' (16 * a + b)) ChM moff' → Qr 1 (0, 1, 0, mrow, mw', mb', mway', moff')) : M_settle_wp mth src clk (Int32.ofNat nn) nf ns msd mrl mrow mw mb mway moff Qr := by
  have hG : GW n w := by rw [hw]; exact Ew.graph hE nn (Nat.le_refl _)
  unfold M_settle_wp
  refine mweigh_of hE (fun mw' hmw => ?_)
  rw [← hw] at hmw
  refine ⟨257, se21 (w := w) (fun mway' hW => ⟨17, se60 hG hmw (fun j s0 r row mway'' a1 a2 a3 => h1 j s0 r row mw' mway'' a1 a2 a3) (fun mway'' hN => ?_) 17 1 mway' (by omega) (by omega) (by omega) (fun j' hj' => by rw [show j' = 0 by omega]; exact hW) (fun i s q1 q2 => by omega)⟩) 257 0 mway (by omega) (by omega) (fun x hx => by omega)⟩
  unfold M_bind_wp
  refine ⟨257, bi2 (fun mb' hb => ⟨Mss mb' 256 + 2, bi41 hG hmw (hL hN) (fun mb'' b1 b2 => ⟨17, mo152 (fun moff' om => h0 mw' mb'' mway'' moff' hN (b1.least hG (hL hN) b2) om) 17 0 moff (by omega) (by omega) (fun s hs => by omega)⟩) (Mss mb' 256 + 1) mb' (Nat.le_refl _) (BI.start hb)⟩) 257 0 mb (by omega) (by omega) (fun x hx => by omega)⟩
set_option maxHeartbeats 1000000 in
theorem LC_3_pure (L : Nat) (xs : Nat → Int32) : ∀ (i : Int32) (sc : Int32) (sd : Int32) (src : (Nat → Int32)) (itm : (Nat → Int32)) (knd : (Nat → Int32)) (plc : (Nat → Int32)) (clk : (Nat → Int64)) (ec : Int32) (nf : (Nat → Int32)) (ns : (Nat → Int32)) (nc : Int32) (wt : (Nat → Nat → Int64)) (bd : (Nat → Nat → Int64)) (off : (Nat → Int64)) (row : (Nat → Int32)) (hw : (Nat → Nat → Int64)) (rl : Int32) (tm : (Nat → Int64)) (ord : (Nat → Int32)) (tc : Int32) (mth : Int32) (msc : Int32) (mec : Int32) (msrc : (Nat → Int32)) (mitm : (Nat → Int32)) (mknd : (Nat → Int32)) (mplc : (Nat → Int32)) (mclk : (Nat → Int64)) (mnc : Int32) (mnf : (Nat → Int32)) (mns : (Nat → Int32)) (msd : Int32) (mrl : Int32) (mrow : (Nat → Int32)) (mw : (Nat → Int64)) (mb : (Nat → Int64)) (mway : (Nat → Int64)) (moff : (Nat → Int64)) (out : Nat → Int64), LRange L i → EInv sc sd src itm knd plc clk ec nf ns nc wt bd off row hw rl tm ord tc mth msc mec msrc mitm mknd mplc mclk mnc mnf mns msd mrl mrow mw mb mway moff out → LC_3 L xs i EInv sc sd src itm knd plc clk ec nf ns nc wt bd off row hw rl tm ord tc mth msc mec msrc mitm mknd mplc mclk mnc mnf mns msd mrl mrow mw mb mway moff out := by
  intro i sc sd src itm knd plc clk ec nf ns nc wt bd off row hw rl tm ord tc mth msc mec msrc mitm mknd mplc mclk mnc mnf mns msd mrl mrow mw mb mway moff out hrg hinv
  obtain ⟨⟨rfl, rfl, rfl, rfl, rfl, rfl, rfl, rfl, rfl, rfl, rfl, rfl⟩, hsd, hring, n, ne, nn, ⟨hn, hne, hnn, rfl, rfl, rfl, hev, hnd⟩, hset⟩ := hinv
  unfold LC_3
  have hE : EEv n ne nn src clk nf ns := ⟨hn, hne, hnn, hev, hnd⟩
  have hG : GW n (Ew src clk nf ns nn) := Ew.graph hE nn (Nat.le_refl _)
  unfold X_settle_wp
  refine weigh_of hE (fun wt' hwt => findBounds_of hG hwt (fun v k1 k2 k3 => ⟨Or.inr rfl, fun _ => ?_, fun q => absurd q (by decide)⟩) (fun v kN => ⟨Or.inl rfl, fun q => absurd rfl q, fun _ => ?_⟩))
  · refine choose_of hn (fun off' ho => lay_of hne hn (fun e e1 e2 => (hev e e1 e2).1) (fun tm' ord' t1 t2 => ?_))
    refine M_settle_of hE rfl (fun _ => Low_of hG k1 k2) (fun j s0 r row' mw' mway' a1 _ _ => absurd a1.neg k3) (fun mw' mb' mway' moff' _ hla hom => ⟨fun _ => ?_, fun q => absurd rfl q⟩)
    have hm : ∀ a b, a < n → b < n → mb' (16 * a + b) = v a b := fun a b ha hb => (hla a b (by omega) (by omega)).uniq (k1 a b ha hb)
    have hd : ∀ a, a < n → v a a = 0 := fun a ha => diag_zero (k1 a a ha ha) k3
    obtain ⟨s1, -⟩ := off_same ⟨hn, k1, k2⟩ hd hm ho hom
    exact ⟨⟨rfl, rfl, rfl, rfl, rfl, rfl, rfl, rfl, rfl, rfl, rfl, rfl⟩, Or.inr rfl, ⟨0, by omega, rfl, fun i hi => by omega⟩, n, ne, nn, ⟨hn, hne, hnn, rfl, rfl, rfl, hev, hnd⟩, fun _ => ⟨rfl, hm, s1, t1, t2⟩⟩
  · refine find_ring hG hwt kN (fun k s0 r row' hw' a1 a2 a3 => ?_)
    refine M_settle_of hE rfl (fun q => absurd kN q) (fun j s1 r2 row2 mw' mway' b1 b2 b3 => ?_) (fun mw' mb' mway' moff' q => absurd kN q)
    obtain ⟨rfl, rfl⟩ := a1.uniq b1
    refine ⟨fun _ => ⟨⟨rfl, rfl, rfl, rfl, rfl, rfl, rfl, rfl, rfl, rfl, rfl, rfl⟩, Or.inl rfl, ⟨k, by have := a1.2.1; omega, rfl, fun i hi => ?_⟩, n, ne, nn, ⟨hn, hne, hnn, rfl, rfl, rfl, hev, hnd⟩, fun q => absurd rfl q⟩, fun q => absurd rfl q⟩
    show row2 i = row' i
    rw [(a3 i hi).1, (b3 i hi).1, a2.uniq b2 i hi]
