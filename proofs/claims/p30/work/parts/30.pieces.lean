/-! ===== the frame rule for contracts ===== -/
theorem fr_sub {G : VG} {pre fr : List va_W} {sz : Nat} {U : State} (h : wPre G (pre ++ fr) sz U) : wPre G pre sz U := by
  obtain ⟨h0, ⟨h1, h2, h3⟩, h4⟩ := h
  rw [List.flatten_append] at h1 h3 h4
  refine ⟨h0, ⟨wp_iff.mpr fun q hq => wp_iff.mp h1 q (List.mem_append_left _ hq), h2, wd_iff.mpr ⟨?_, fun _ _ => trivial⟩⟩, h4.step (State.WarmedH.refl U) (fun _ _ _ => rfl) (fun q hq => ?_)⟩
  · have := (wd_iff.mp h3).1
    unfold wN at this ⊢
    exact (List.pairwise_append.mp this).1
  · rcases hq with ⟨k, e, hk⟩ | hq
    · obtain ⟨k2, hk2⟩ := List.getElem?_of_mem (List.mem_append_left fr.flatten (List.mem_of_getElem? hk))
      exact Or.inl ⟨k2, e, hk2⟩
    · exact Or.inr hq
theorem fr_A {pre fr : List va_W} {sz : Nat} (q : Nat) (hq : va_A pre.flatten sz q) : va_A (pre ++ fr).flatten sz q := by
  rw [List.flatten_append]
  rcases hq with ⟨k, e, hk⟩ | hq
  · obtain ⟨k2, hk2⟩ := List.getElem?_of_mem (List.mem_append_left fr.flatten (List.mem_of_getElem? hk))
    exact Or.inl ⟨k2, e, hk2⟩
  · exact Or.inr hq
theorem fr_B {G : VG} {pre fr u : List va_W} {sz : Nat} {s t : State} (h : wPre G (pre ++ fr) sz s) (hF : va_F (va_A pre.flatten sz) s t) (hb : wB G (va_A pre.flatten sz) u t) : wB G (va_A (pre ++ fr).flatten sz) (u ++ fr) t := by
  obtain ⟨h0, ⟨h1, h2, h3⟩, h4⟩ := h
  obtain ⟨b1, b2, b3⟩ := hb
  have out : ∀ q ∈ fr.flatten, q.1 < s.heap.size ∧ ¬ va_A pre.flatten sz q.1 := by
    intro q hq
    have hl := (wp_iff.mp h1 q (by rw [List.flatten_append]; exact List.mem_append_right _ hq)).lt
    refine ⟨hl, fun h => ?_⟩
    rcases h with ⟨k, e, hk⟩ | h
    · have := (wd_iff.mp h3).1
      unfold wN at this
      rw [List.flatten_append] at this
      exact (List.pairwise_append.mp this).2.2 _ (List.mem_of_getElem? hk) q hq rfl
    · omega
  refine ⟨?_, b2, ?_⟩
  · rw [List.flatten_append]
    refine wp_iff.mpr fun q hq => ?_
    rcases List.mem_append.mp hq with h | h
    · exact wp_iff.mp b1 q h
    · exact (wp_iff.mp h1 q (by rw [List.flatten_append]; exact List.mem_append_right _ h)).kept (hF.2 q.1 (out q h).1 (out q h).2)
  · rw [show (u ++ fr).flatten = u.flatten ++ fr.flatten from List.flatten_append]
    refine wd_iff.mpr ⟨?_, fun q hq => ?_⟩
    · unfold wN
      rw [List.pairwise_append]
      have := (wd_iff.mp h3).1
      unfold wN at this
      rw [List.flatten_append] at this
      exact ⟨(wd_iff.mp b3).1, (List.pairwise_append.mp this).2.1, fun x hx y hy e => (out y hy).2 (e ▸ (wd_iff.mp b3).2 x hx)⟩
    · rcases List.mem_append.mp hq with h | h
      · exact fr_A _ ((wd_iff.mp b3).2 q h)
      · rw [List.flatten_append]
        obtain ⟨k2, hk2⟩ := List.getElem?_of_mem (List.mem_append_right pre.flatten h)
        exact Or.inl ⟨k2, q.2, hk2⟩
theorem fr_F {pre fr : List va_W} {sz : Nat} {s t : State} (hF : va_F (va_A pre.flatten sz) s t) : va_F (va_A (pre ++ fr).flatten sz) s t := ⟨hF.1, fun q h1 h2 => hF.2 q h1 (fun h => h2 (fr_A q h))⟩
theorem Mi_frame {l : Launch} {G : VG} {y : MethodName} {cc : ByteArray} {nL : Nat} {ret : FieldType} {f lo mc ms : Nat} {av : List Value} {pre : List va_W} {post : Int32 → List va_W → Prop} (fr : List va_W) (hM : Mi l G y cc nL ret f lo mc ms av pre post) : Mi l G y cc nL ret f lo mc ms av (pre ++ fr) (fun r u => ∃ u0, post r u0 ∧ u = u0 ++ fr) := by
  intro sz p e ha hc hk s m args below hf happ hP hK
  obtain ⟨n, o, a1, a2, a3, ⟨⟨⟨r, u, ho, hp, hb⟩, hF⟩, L, e1, e2⟩⟩ := hM sz p e ha hc hk s m args below hf happ ⟨hP.1, fr_sub hP.2⟩ hK
  exact ⟨n, o, a1, a2, a3, ⟨⟨r, u ++ fr, ho, ⟨u, hp, rfl⟩, fr_B hP.2 hF hb⟩, fr_F hF⟩, L, e1, fun q hq => fr_A _ (e2 q hq)⟩
theorem Mv_frame {l : Launch} {G : VG} {y : MethodName} {cc : ByteArray} {nL : Nat} {f lo mc ms : Nat} {av : List Value} {pre : List va_W} {post : List va_W → Prop} (fr : List va_W) (hM : Mv l G y cc nL f lo mc ms av pre post) : Mv l G y cc nL f lo mc ms av (pre ++ fr) (fun u => ∃ u0, post u0 ∧ u = u0 ++ fr) := by
  intro sz p e ha hc hk s m args below hf happ hP hK
  obtain ⟨n, o, a1, a2, a3, ⟨⟨⟨u, ho, hp, hb⟩, hF⟩, L, e1, e2⟩⟩ := hM sz p e ha hc hk s m args below hf happ ⟨hP.1, fr_sub hP.2⟩ hK
  exact ⟨n, o, a1, a2, a3, ⟨⟨u ++ fr, ho, ⟨u, hp, rfl⟩, fr_B hP.2 hF hb⟩, fr_F hF⟩, L, e1, fun q hq => fr_A _ (e2 q hq)⟩
/-! ===== blocks, lots, silos as pieces ===== -/
abbrev BV : Type := Int32 × Int32 × (Nat → Int32)
def bkP (G : VG) (q : Nat → Nat) (z : BV) : va_W := [(q 0, .inr (1, [.int z.1, .int z.2.1, .ref (q 1)])), (q 1, .inl (G.2.1 0, 4, .inl z.2.2))]
abbrev SV : Type := Nat × Int32 × (Nat → Int32)
def slP (G : VG) (q : Nat → Nat) (z : SV) : va_W := [(q 0, .inr (7, [.ref (q 1), .int (nI z.1), .int z.2.1])), (q 1, .inl (G.2.1 0, 12, .inl z.2.2))]
abbrev LV : Type := (Nat → Int32) × (Nat → Int32) × CV
def qs (q : Nat → Nat) : Nat → Nat := fun k => q (k + 2)
def ltP (G : VG) (q : Nat → Nat) (z : LV) : va_W := [(q 0, .inr (4, [.ref (q 2), .int (z.1 0), .int (z.1 1), .int (z.1 2), .int (z.1 3), .int (z.1 4), .ref (q 1)])), (q 1, .inl (G.2.1 0, 3, .inl z.2.1))] ++ chP G (qs q) z.2.2
def hv5 (a b c d e : Int32) : Nat → Int32 := fun k => match k with
  | 0 => a
  | 1 => b
  | 2 => c
  | 3 => d
  | _ => e
def qf2 (a b : Nat) : Nat → Nat := fun k => match k with
  | 0 => a
  | _ => b
def qf6 (a b c d e f : Nat) : Nat → Nat := fun k => match k with
  | 0 => a
  | 1 => b
  | 2 => c
  | 3 => d
  | 4 => e
  | _ => f
def bkOx (z : BV) : Nat → Int32 := bkB z.2.1 z.2.2
def ltGround (x y i : Int32) (z : LV) : LV := (hv5 x y i (mx 1 (mxSum z.2.2.2.1)) (mx 1 (mxSum z.2.2.2.1)), z.2.1, z.2.2)
def ltStrength (i : Nat) (z : LV) : Int32 := ltStr i (z.1 0) (z.1 1) (z.1 3) (z.2.2.1 5) (z.2.2.1 4) (z.2.2.1 2) z.2.2.2.1
/-- the stones of what is cut -/
def mcF (bz : Nat → BV) (f sh m0 : Nat → Int32) : Nat → Nat → Int32
  | 0 => mxClear m0
  | i + 1 => mxStone (mcF bz f sh m0 i) (bkOx (bz (f i).toNatClampNeg)) (sh i)
theorem k_X0_tell (l : Launch) (G : VG) (q : Nat → Nat) (z : BV) (s0 v0 v1 v2 v3 : Int32) : Mv l G yX0_tell cX0_tell 6 0 0 0 0 [.ref (q 0), .int s0, .int v0, .int v1, .int v2, .int v3] [bkP G q z] (fun u => u = [bkP G q (s0, z.2.1, tl5 z.2.2 v0 v1 v2 v3)]) :=
  Mv_post rfl (by rintro u rfl; exact ⟨[bkP G q (s0, z.2.1, tl5 z.2.2 v0 v1 v2 v3)], rfl, rfl⟩) (c_X0_tell l G (q 0) z.1 z.2.1 (q 1) z.2.2 s0 v0 v1 v2 v3)
theorem k_X0_believed (l : Launch) (G : VG) (q : Nat → Nat) (z : BV) (o : Int32) (i : Nat) (hi : i < 4) (ho : o = nI i) : Mi l G yX0_believed cX0_believed 2 .int 1 21 0 0 [.ref (q 0), .int o] [bkP G q z] (fun r u => r = bkOx z i ∧ u = [bkP G q z]) :=
  Mi_post rfl (by rintro r u ⟨rfl, rfl⟩; exact ⟨[bkP G q z], rfl, rfl, rfl⟩) (c_X0_believed l G (q 0) z.1 z.2.1 (q 1) z.2.2 o i hi ho)
theorem k_X4_addStone (l : Launch) (G : VG) (a am : Nat) (f : Nat → Int32) (q : Nat → Nat) (z : BV) (x : Int32) : Mv l G yX4_addStone cX4_addStone 4 2 42 0 0 [.ref a, .ref (q 0), .int x] [[(a, .inr (5, [.ref am]))], [(am, .inl (G.2.1 0, 4, .inl f))], bkP G q z] (fun u => u = [[(a, .inr (5, [.ref am]))], [(am, .inl (G.2.1 0, 4, .inl (mxStone f (bkOx z) x)))], bkP G q z]) :=
  Mv_post rfl (by rintro u rfl; exact ⟨[[(a, .inr (5, [.ref am]))], [(am, .inl (G.2.1 0, 4, .inl (mxStone f (bkOx z) x)))], bkP G q z], rfl, rfl⟩) (c_X4_addStone l G a am f (q 0) z.1 z.2.1 (q 1) z.2.2 x)
theorem k_X3_isFound (l : Launch) (G : VG) (q : Nat → Nat) (z : LV) (o : Int32) (i : Nat) (hi : i < 3) (ho : o = nI i) : Mi l G yX3_isFound cX3_isFound 2 .boolean 1 21 0 0 [.ref (q 0), .int o] [ltP G q z] (fun r u => r = ltGr (z.2.1 i) ∧ u = [ltP G q z]) :=
  Mi_post rfl (by rintro r u ⟨u0, ⟨rfl, rfl⟩, rfl⟩; exact ⟨[ltP G q z], rfl, rfl, rfl⟩) (Mi_frame [chP G (qs q) z.2.2] (c_X3_isFound l G (q 0) (q 2) (q 1) (z.1 0) (z.1 1) (z.1 2) (z.1 3) (z.1 4) z.2.1 o i hi ho))
theorem k_X6_lotAt (l : Launch) (G : VG) (q : Nat → Nat) (z : SV) (k : Int32) (hn : z.1 ≤ 12) : Mi l G yX6_lotAt cX6_lotAt 2 .int 1 21 0 0 [.ref (q 0), .int k] [slP G q z] (fun r u => r = siAt z.2.2 z.1 k ∧ u = [slP G q z]) :=
  Mi_post rfl (by rintro r u ⟨rfl, rfl⟩; exact ⟨[slP G q z], rfl, rfl, rfl⟩) (c_X6_lotAt l G (q 0) (q 1) z.1 z.2.1 z.2.2 k hn)
theorem k_X0_init (l : Launch) (G : VG) (a : Nat) : Mv l G yX0_init cX0_init 1 1 12 1 4 [.ref a] [[(a, .inr (1, [.int 0, .int 0, .null]))]] (fun u => ∃ ox : Nat, u = [bkP G (qf2 a ox) (0, 0, fun _ => 0)]) :=
  Mv_post rfl (by rintro u ⟨ox, rfl⟩; exact ⟨[bkP G (qf2 a ox) (0, 0, fun _ => 0)], rfl, ox, rfl⟩) (c_X0_init l G a)
theorem k_X6_init (l : Launch) (G : VG) (a : Nat) : Mv l G yX6_init cX6_init 1 1 12 1 12 [.ref a] [[(a, .inr (7, [.null, .int 0, .int 0]))]] (fun u => ∃ lo : Nat, u = [slP G (qf2 a lo) (0, 0, fun _ => 0)]) :=
  Mv_post rfl (by rintro u ⟨lo, rfl⟩; exact ⟨[slP G (qf2 a lo) (0, 0, fun _ => 0)], rfl, lo, rfl⟩) (c_X6_init l G a)
theorem k_X3_init (l : Launch) (G : VG) (t : Nat) : Mv l G yX3_init cX3_init 1 3 52 5 22 [.ref t] [[(t, .inr (4, [.null, .int 0, .int 0, .int 0, .int 0, .int 0, .null]))]] (fun u => ∃ a fo mi pb am : Nat, u = [ltP G (qf6 t fo a mi pb am) (hv5 (-1) (-1) (-1) 0 0, upd (upd (upd (fun _ => 0) 0 (-1)) 1 (-1)) 2 (-1), ch0)]) :=
  Mv_post rfl (by rintro u ⟨a, fo, mi, pb, am, rfl⟩; exact ⟨[ltP G (qf6 t fo a mi pb am) (hv5 (-1) (-1) (-1) 0 0, upd (upd (upd (fun _ => 0) 0 (-1)) 1 (-1)) 2 (-1), ch0)], rfl, a, fo, mi, pb, am, rfl⟩) (c_X3_init l G t)
