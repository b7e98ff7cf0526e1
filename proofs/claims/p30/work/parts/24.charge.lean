/-! ===== families of pieces; charges as one piece ===== -/
theorem fam_open {n i : Nat} {g : Nat → va_W} (hi : i < n) : (famW n g).Perm (g i ++ famX n i g) := by
  have h : (List.range n).Perm (i :: (List.range n).erase i) := List.perm_cons_erase (List.mem_range.mpr hi)
  exact (h.map g).flatten
theorem fam_cong {n i : Nat} {g g' : Nat → va_W} (h : ∀ j, j < n → j ≠ i → g' j = g j) : famX n i g' = famX n i g := by
  unfold famX
  congr 1
  apply List.map_congr_left
  intro j hj
  have h1 := (List.nodup_range (n := n)).mem_erase_iff.mp hj
  exact h j (List.mem_range.mp h1.2) h1.1
theorem fam_eq {n : Nat} {g g' : Nat → va_W} (h : ∀ j, j < n → g j = g' j) : famW n g = famW n g' := by
  unfold famW
  congr 1
  apply List.map_congr_left
  intro j hj
  exact h j (List.mem_range.mp hj)
section VF
variable {p : Program} {l : Launch} {e : Env} {R : Room} {s : State} {m : MethodId} {args : Array Value} {below : List Frame} {meth : Method} {c : Code} {Q : State → Prop} {G : VG} {A : Nat → Prop} {nL : Nat} {ps rs : List va_W} {k n pc : Nat} {L : List (Nat × Value)} {st : List Value}
theorem V_open {N i : Nat} {g : Nat → va_W} (hi : i < N) (kk : V p l e R s m args below meth c Q G A nL (g i :: famX N i g :: rs) k n pc L st) : V p l e R s m args below meth c Q G A nL (famW N g :: rs) k n pc L st :=
  V_perm (by
    rw [List.flatten_cons, List.flatten_cons, List.flatten_cons, ← List.append_assoc]
    exact (fam_open hi).append_right _) kk
theorem V_close {N i : Nat} {g g' : Nat → va_W} {x : va_W} (hi : i < N) (hx : g' i = x) (hg : ∀ j, j < N → j ≠ i → g' j = g j) (kk : V p l e R s m args below meth c Q G A nL (famW N g' :: rs) k n pc L st) : V p l e R s m args below meth c Q G A nL (x :: famX N i g :: rs) k n pc L st :=
  V_perm (by
    rw [List.flatten_cons, List.flatten_cons, List.flatten_cons, ← List.append_assoc, ← hx, ← fam_cong hg]
    exact ((fam_open hi).symm).append_right _) kk
theorem V_expand {N : Nat} {g : Nat → va_W} (kk : V p l e R s m args below meth c Q G A nL ((List.range N).map g ++ rs) k n pc L st) : V p l e R s m args below meth c Q G A nL (famW N g :: rs) k n pc L st := V_flat (by rw [List.flatten_append]; rfl) kk
theorem V_fold {N : Nat} {g : Nat → va_W} (kk : V p l e R s m args below meth c Q G A nL (famW N g :: rs) k n pc L st) : V p l e R s m args below meth c Q G A nL ((List.range N).map g ++ rs) k n pc L st := V_flat (by rw [List.flatten_append]; rfl) kk
theorem V_psEq {ps' : List va_W} (h : ps = ps') (kk : V p l e R s m args below meth c Q G A nL ps' k n pc L st) : V p l e R s m args below meth c Q G A nL ps k n pc L st := h ▸ kk
end VF
theorem wB_flat {G : VG} {A : Nat → Prop} {u u' : List va_W} {t : State} (h : u.flatten = u'.flatten) (hb : wB G A u t) : wB G A u' t := by
  unfold wB at hb ⊢
  rw [← h]; exact hb
theorem wPre_flat {G : VG} {pre pre' : List va_W} {sz : Nat} (h : pre.flatten = pre'.flatten) : wPre G pre' sz = wPre G pre sz := by
  unfold wPre wB
  rw [h]
theorem met_post {l : Launch} {y : MethodName} {ws : List Cond} {rm : Room} {Pc : Array Value → State → Prop} {Qc Qc' : Array Value → State → Outcome → State → Prop} {mc ms : Nat} {free : Addr → Prop} (h : ∀ a st o t, Qc a st o t → Qc' a st o t) (hM : Met l y ws rm Pc Qc mc ms free) : Met l y ws rm Pc Qc' mc ms free := by
  intro p e ha hc hk s m args below hf happ hP hK
  obtain ⟨n, o, h1, h2, h3, h4⟩ := hM p e ha hc hk s m args below hf happ hP hK
  exact ⟨n, o, h1, h2, h3, h _ _ _ _ h4.1, h4.2⟩
theorem Mi_post {l : Launch} {G : VG} {y : MethodName} {cc : ByteArray} {nL : Nat} {ret : FieldType} {fr lo mc ms : Nat} {av : List Value} {pre pre' : List va_W} {post post' : Int32 → List va_W → Prop} (hp : pre.flatten = pre'.flatten) (h : ∀ r u, post r u → ∃ u', u.flatten = u'.flatten ∧ post' r u') (hM : Mi l G y cc nL ret fr lo mc ms av pre post) : Mi l G y cc nL ret fr lo mc ms av pre' post' := by
  intro sz
  rw [wPre_flat hp, ← hp]
  refine met_post (fun a st o t q => ?_) (hM sz)
  obtain ⟨⟨r, u, h1, h2, h3⟩, h4⟩ := q
  obtain ⟨u', e1, e2⟩ := h r u h2
  exact ⟨⟨r, u', h1, e2, wB_flat e1 h3⟩, h4⟩
theorem Mv_post {l : Launch} {G : VG} {y : MethodName} {cc : ByteArray} {nL : Nat} {fr lo mc ms : Nat} {av : List Value} {pre pre' : List va_W} {post post' : List va_W → Prop} (hp : pre.flatten = pre'.flatten) (h : ∀ u, post u → ∃ u', u.flatten = u'.flatten ∧ post' u') (hM : Mv l G y cc nL fr lo mc ms av pre post) : Mv l G y cc nL fr lo mc ms av pre' post' := by
  intro sz
  rw [wPre_flat hp, ← hp]
  refine met_post (fun a st o t q => ?_) (hM sz)
  obtain ⟨⟨u, h1, h2, h3⟩, h4⟩ := q
  obtain ⟨u', e1, e2⟩ := h u h2
  exact ⟨⟨u', h1, e2, wB_flat e1 h3⟩, h4⟩
abbrev CV : Type := (Nat → Int32) × (Nat → Int32) × (Nat → Int32)
def hv (a b c d e f : Int32) : Nat → Int32 := fun k => match k with
  | 0 => a
  | 1 => b
  | 2 => c
  | 3 => d
  | 4 => e
  | _ => f
def chP (G : VG) (q : Nat → Nat) (v : CV) : va_W := [(q 0, .inr (2, [.int (v.1 0), .ref (q 1), .ref (q 2), .int (v.1 1), .int (v.1 2), .int (v.1 3), .int (v.1 4), .int (v.1 5)])), (q 1, .inr (5, [.ref (q 3)])), (q 3, .inl (G.2.1 0, 4, .inl v.2.1)), (q 2, .inl (G.2.1 0, 6, .inl v.2.2))]
def chCopy (y x : CV) : CV := (hv (x.1 0) (x.1 1) (x.1 2) (x.1 3) (x.1 4) (x.1 5), mxCopy y.2.1 x.2.1, cp6 y.2.2 x.2.2)
def chBegin (y : CV) (f : Nat → Int32) : CV := (hv 1 (mxCopy y.2.1 f 0) 0 (mxCopy y.2.1 f 1) 0 0, mxCopy y.2.1 f, ze6 y.2.2)
def chBurn (w : Int32) (x : CV) : CV := (hv (x.1 0) (x.1 1 - bnA w (x.1 1)) (bnFree2 w (x.1 1) (x.1 2) (x.1 3) - bnC1 w (x.1 1) (x.1 2) (x.1 3) (x.1 4) (mxMelt x.2.1)) (x.1 3 - bnB1 w (x.1 1) (x.1 2) (x.1 3)) (x.1 4 + bnB1 w (x.1 1) (x.1 2) (x.1 3) - bnC1 w (x.1 1) (x.1 2) (x.1 3) (x.1 4) (mxMelt x.2.1)) (x.1 5 + bnC1 w (x.1 1) (x.1 2) (x.1 3) (x.1 4) (mxMelt x.2.1)), x.2)
def ch0 : CV := (hv 0 0 0 0 0 0, fun _ => 0, fun _ => 0)
def qf (a b c d : Nat) : Nat → Nat := fun k => match k with
  | 0 => a
  | 1 => b
  | 2 => c
  | _ => d
theorem k_X1_init (l : Launch) (G : VG) (a : Nat) : Mv l G yX1_init cX1_init 1 2 32 3 11 [.ref a] [[(a, .inr (2, [.int 0, .null, .null, .int 0, .int 0, .int 0, .int 0, .int 0]))]] (fun u => ∃ mi pb am : Nat, u = [chP G (qf a mi pb am) ch0]) :=
  Mv_post rfl (by rintro u ⟨mi, pb, am, rfl⟩; exact ⟨[chP G (qf a mi pb am) ch0], rfl, mi, pb, am, rfl⟩) (c_X1_init l G a)
theorem k_X1_begin (l : Launch) (G : VG) (q : Nat → Nat) (v : CV) (b bm : Nat) (h : Nat → Int32) : Mv l G yX1_begin cX1_begin 3 1 22 0 0 [.ref (q 0), .ref b] [chP G q v, [(b, .inr (5, [.ref bm]))], [(bm, .inl (G.2.1 0, 4, .inl h))]] (fun u => u = [chP G q (chBegin v h), [(b, .inr (5, [.ref bm]))], [(bm, .inl (G.2.1 0, 4, .inl h))]]) :=
  Mv_post rfl (by rintro u rfl; exact ⟨[chP G q (chBegin v h), [(b, .inr (5, [.ref bm]))], [(bm, .inl (G.2.1 0, 4, .inl h))]], rfl, rfl⟩) (c_X1_begin l G (q 0) (q 1) (q 2) (q 3) (v.1 0) (v.1 1) (v.1 2) (v.1 3) (v.1 4) (v.1 5) v.2.1 v.2.2 b bm h)
theorem k_X1_copyFrom (l : Launch) (G : VG) (q : Nat → Nat) (v : CV) (q2 : Nat → Nat) (v2 : CV) (hpr : v2.1 0 = 0 ∨ v2.1 0 = 1) : Mv l G yX1_copyFrom cX1_copyFrom 3 1 22 0 0 [.ref (q 0), .ref (q2 0)] [chP G q v, chP G q2 v2] (fun u => u = [chP G q (chCopy v v2), chP G q2 v2]) :=
  Mv_post rfl (by rintro u rfl; exact ⟨[chP G q (chCopy v v2), chP G q2 v2], rfl, rfl⟩) (c_X1_copyFrom l G (q 0) (q 1) (q 2) (q 3) (v.1 0) (v.1 1) (v.1 2) (v.1 3) (v.1 4) (v.1 5) v.2.1 v.2.2 (q2 0) (q2 1) (q2 2) (q2 3) (v2.1 0) (v2.1 1) (v2.1 2) (v2.1 3) (v2.1 4) (v2.1 5) v2.2.1 v2.2.2 hpr)
theorem k_X1_melt (l : Launch) (G : VG) (q : Nat → Nat) (v : CV) : Mi l G yX1_melt cX1_melt 1 .int 1 20 0 0 [.ref (q 0)] [chP G q v] (fun r u => r = mxMelt v.2.1 ∧ u = [chP G q v]) :=
  Mi_post rfl (by rintro r u ⟨rfl, rfl⟩; exact ⟨[chP G q v], rfl, rfl, rfl⟩) (c_X1_melt l G (q 0) (q 1) (q 2) (q 3) (v.1 0) (v.1 1) (v.1 2) (v.1 3) (v.1 4) (v.1 5) v.2.1 v.2.2)
theorem k_X1_burn (l : Launch) (G : VG) (q : Nat → Nat) (v : CV) (w : Int32) : Mi l G yX1_burn cX1_burn 4 .int 2 40 0 0 [.ref (q 0), .int w] [chP G q v] (fun r u => r = bnA w (v.1 1) ∧ u = [chP G q (chBurn w v)]) :=
  Mi_post rfl (by rintro r u ⟨rfl, rfl⟩; exact ⟨[chP G q (chBurn w v)], rfl, rfl, rfl⟩) (c_X1_burn l G (q 0) (q 1) (q 2) (q 3) (v.1 0) (v.1 1) (v.1 2) (v.1 3) (v.1 4) (v.1 5) v.2.1 v.2.2 w)
