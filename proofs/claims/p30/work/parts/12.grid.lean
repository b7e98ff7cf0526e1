/-! ===== arrays of arrays of ints ===== -/
/-- c places, e's references in them -/
def rfN (c : Nat) (e : Nat → Nat) : Nat → Option Nat := fun i => if i < c then some (e i) else none
theorem rfN_at {c : Nat} {e : Nat → Nat} {i : Nat} (h : i < c) : rfN c e i = some (e i) := if_pos h
/-- an array of ints as a piece -/
def iaP (G : VG) (q N : Nat) (f : Nat → Int32) : va_W := [(q, .inl (G.2.1 0, N, .inl f))]
/-- there is an array of ints at y -/
def iaIn (G : VG) (W : va_W) (y : Nat) : Prop := ∃ (K : Nat) (f : Nat → Int32), (y, .inl (G.2.1 0, K, .inl f)) ∈ W
theorem rfN_push {n b : Nat} {e : Nat → Nat} : va_up (va_cpy (rfN n e) (fun _ => none) 0 0 n) n (some b) = rfN (n + 1) (va_up e n b) := by
  funext i
  by_cases h : i = n
  · subst h
    have e2 : rfN (i + 1) (va_up e i b) i = some (va_up e i b i) := if_pos (Nat.lt_succ_self i)
    rw [e2]
    simp [va_up]
  · rw [va_up_ne _ _ h]
    by_cases h2 : i < n
    · have e1 : va_cpy (rfN n e) (fun _ => none) 0 0 n i = rfN n e (0 + (i - 0)) := pk_cpy_in (Nat.zero_le i) (by omega)
      have e2 : rfN (n + 1) (va_up e n b) i = some (va_up e n b i) := if_pos (by omega)
      rw [e1, show 0 + (i - 0) = i by omega, e2, va_up_ne _ _ h]
      exact if_pos h2
    · have e1 : va_cpy (rfN n e) (fun _ => none) 0 0 n i = none := pk_cpy_out (by omega)
      have e2 : rfN (n + 1) (va_up e n b) i = none := if_neg (by omega)
      rw [e1, e2]
theorem asg_self (vm : Vm) (c : ClassId) : vm.assignable c c = true := by
  show vm.assignableAux (255 + 1) c c = true
  rw [Vm.assignableAux]
  simp only [beq_self_eq_true, Bool.true_or]
section VGA
variable {p : Program} {l : Launch} {e : Env} {R : Room} {s : State} {m : MethodId} {args : Array Value} {below : List Frame} {meth : Method} {c : Code} {Q : State → Prop} {G : VG} {A : Nat → Prop} {nL : Nat} {cc : ByteArray} {own : String} {ps : List va_W} {k n pc : Nat} {L : List (Nat × Value)} {st rest : List Value}
/-- an array class over int[] : its component is the class of int[] -/
theorem ga_comp (C : VC p s m args meth c G A nL cc own) : ∃ kA : Class, s.vm.classes[G.2.1 9]? = some kA ∧ kA.kind = .array (G.2.1 0) (.array .int) ∧ s.vm.findClass "[I" = some (G.2.1 0) := by
  have hK0 : s.vm.findClass ("[" ++ FieldType.int.toString) = some (G.2.1 0) := (C.K.2 0 (G.2.1 0, .int) rfl).2
  have hK9 : s.vm.findClass ("[" ++ (FieldType.array .int).toString) = some (G.2.1 9) := (C.K.2 9 (G.2.1 9, .array .int) rfl).2
  obtain ⟨comp, c9, k9, f1, f2, f3, f4, f5⟩ := arrayOverA_spec (va_AOA.use (A := args) C.sT.2.2.2.2.1)
  obtain rfl : c9 = G.2.1 9 := Option.some.inj (f5.symm.trans hK9)
  have e1 : (FieldType.array .int).toString = "[" ++ FieldType.int.toString := by first | rfl | decide +kernel
  rw [e1] at f1
  obtain rfl : comp = G.2.1 0 := Option.some.inj (f1.symm.trans hK0)
  have e2 : "[" ++ FieldType.int.toString = "[I" := by decide +kernel
  exact ⟨k9, f3, f4, e2 ▸ hK0⟩
theorem V_newA (C : VC p s m args meth c G A nL cc own) {ix : Nat} (hcl : Cond.classLink own ix "[I" ∈ lw_all) {i : Int32} {N : Nat} (hn : ¬ i < 0) (hN : i.toNatClampNeg = N) (hb : N * 4 ≤ 536870912) (hk : k + 1 ≤ R.cells) (hs : n + N ≤ R.slots) (hdg : decode cc pc = .ok (.anewarray ix, 3))
    (kk : ∀ q : Nat, V p l e R s m args below meth c Q G A nL (ps ++ [[(q, .inl (G.2.1 9, N, .inr (.inr (.inr (.inr (fun _ => none))))))]]) (k + 1) (n + N) (pc + 3) L (.ref q :: st)) : V p l e R s m args below meth c Q G A nL ps k n pc L (.int i :: st) := fun H locs ls hP hD hS hl => by
  subst hN
  have hK9 : s.vm.findClass ("[" ++ (FieldType.array .int).toString) = some (G.2.1 9) := (C.K.2 9 (G.2.1 9, .array .int) rfl).2
  have e2 : (FieldType.array .int).toString = "[I" := by decide +kernel
  refine W.anewA (t := .int) C.1 C.2.1 C.2.2.2.1 (by rw [e2]; exact C.wd hcl) (va_AOA.use C.sT.2.2.2.2.1) rfl hdg rfl hn hb hk hs fun cA kA comp f1 f2 f3 f4 => ?_
  obtain rfl : G.2.1 9 = cA := Option.some.inj (hK9.symm.trans f1)
  generalize hH1 : H.push ({ cls := G.2.1 9, slots := Array.replicate i.toNatClampNeg .null, vm := .none } : Cell) = H1
  have z1 : H1.size = H.size + 1 := by rw [← hH1, Array.size_push]
  have e1 : H1[H.size]? = some (arrV (G.2.1 9) i.toNatClampNeg (fun _ => .null)) := by rw [← hH1, Array.getElem?_push_size, ← arrV_new]
  have o1 : ∀ q : Nat, q < H.size → H1[q]? = H[q]? := fun q hq => by rw [← hH1, Array.getElem?_push, if_neg (Nat.ne_of_lt hq)]
  have hkp : ∀ (k : Nat) (x : Nat × va_E), ps.flatten[k]? = some x → H1[x.1]? = H[x.1]? := fun k x hx => o1 x.1 ((hP k x hx).lt)
  refine kk H.size H1 locs ls ?_ ?_ ⟨Nat.le_trans hS.1 (by omega), fun x h1 h2 => (o1 x (Nat.lt_of_lt_of_le h1 hS.1)).trans (hS.2.1 x h1 h2), hS.2.2⟩ hl
  · rw [List.flatten_append]
    refine (hP.kept hkp).app (fun k x hx => ?_)
    have hz : k < 1 := (List.getElem?_eq_some_iff.mp hx).1
    rw [show k = 0 by omega] at hx
    cases hx
    show H1[H.size]? = some (vp_cell _ _)
    rw [vp_cell_q]
    exact e1
  · rw [List.flatten_append]
    exact hD.push hP rfl (C.hA _ hS.1)
/-- a store of an int[] into an int[][] -/
theorem V_aastA (C : VC p s m args meth c G A nL cc own) (hdg : decode cc pc = .ok (.aastore, 1)) (j t2 : Nat) {a N v : Nat} {f : Nat → Option Nat} {r0 : va_W} (he : ps[j]? = some r0) (he2 : r0[t2]? = some (a, .inl (G.2.1 9, N, .inr (.inr (.inr (.inr f)))))) (hv : iaIn G ps.flatten v) {i : Int32} (hi : vp_in i N) {z : Nat} (hx : i.toNatClampNeg = z) {ps' : List va_W} (hps : ps.set j (r0.set t2 (a, .inl (G.2.1 9, N, .inr (.inr (.inr (.inr (va_up f z (some v)))))))) = ps') (kk : V p l e R s m args below meth c Q G A nL ps' k n (pc + 1) L st) : V p l e R s m args below meth c Q G A nL ps k n pc L (.ref v :: .int i :: .ref a :: st) := fun H locs ls hP hD hS hl => by
  subst hx
  obtain ⟨q0, ha, hq2⟩ := cell_in he he2
  obtain ⟨K, g, hv⟩ := hv
  obtain ⟨qv, hqv⟩ := List.getElem?_of_mem hv
  obtain ⟨kA, k1, k2, k3⟩ := ga_comp C
  obtain ⟨kE, hkE, -⟩ := Vm.findClass_spec k3
  have hlt : i.toNatClampNeg < N := Nat.not_le.mp fun q => hi (Or.inr q)
  have h0 : ¬ i < 0 := fun q => hi (Or.inl q)
  have hcv : H[v]? = some (vp_cell (G.2.1 0) (K, .inl g)) := hP qv _ hqv
  refine W.aast C.1 C.2.1 (hP q0 _ ha) (fun q h => by cases h) (fun h => by cases h) k1 k2 rfl hkE ⟨h0, by show _ < (arrV _ _ _).slots.size; rw [arrV_size]; exact hlt⟩ hcv (fun q h => by cases h) hkE (asg_self _ _) rfl rfl hdg fun H1 e z oq => ?_
  have hP1 := hP.set hD ha (e := .inl (G.2.1 9, N, .inr (.inr (.inr (.inr (va_up f i.toNatClampNeg (some v))))))) (by
    show H1[a]? = some (vp_cell _ _)
    rw [e]
    rw [vp_cell_q, vp_cell_q, arrV_store]
    congr 2
    funext q
    by_cases hq : q = i.toNatClampNeg
    · subst hq
      simp [updV, va_up, va_rf]
    · simp [updV, va_up, hq]) oq
  have hD1 := hD.set ha (e := .inl (G.2.1 9, N, .inr (.inr (.inr (.inr (va_up f i.toNatClampNeg (some v)))))))
  rw [hq2, hps] at hP1 hD1
  exact kk H1 _ ls hP1 hD1 (hS.put z oq (hD.2 q0 _ ha)) hl
/-- an element of an array of int arrays -/
theorem V_aaldI (C : VC p s m args meth c G A nL cc own) {a N : Nat} {f : Nat → Option Nat} {i : Int32} {x : Nat} {b : Nat} (hdg : decode cc pc = .ok (.aaload, 1)) (he : (a, .inl (G.2.1 9, N, .inr (.inr (.inr (.inr f))))) ∈ ps.flatten) (hi : vp_in i N) (hx : i.toNatClampNeg = x) (hb : f x = some b) (kk : V p l e R s m args below meth c Q G A nL ps k n (pc + 1) L (.ref b :: st)) : V p l e R s m args below meth c Q G A nL ps k n pc L (.int i :: .ref a :: st) := fun H locs ls hP hD hS hl => by
  subst hx
  obtain ⟨q, hq⟩ := List.getElem?_of_mem he
  have hlt : i.toNatClampNeg < N := Nat.not_le.mp fun q => hi (Or.inr q)
  have h1 := kk H locs ls hP hD hS hl
  rw [show (Value.ref b) = va_rf (f i.toNatClampNeg) by rw [hb]; rfl] at h1
  exact W.aald (v := va_rf (f i.toNatClampNeg)) (ty := .array .int) C.1 C.2.1 (hP q _ hq) ((C.K.2 9 _ rfl).1 N (fun j => va_rf (f j))) rfl (fun q => by cases q) (by show ¬ (i < 0 ∨ (arrV _ _ _).slots.size ≤ _); rw [arrV_size]; exact hi) (by show (arrV _ _ _).slots[_]? = _; rw [arrV_read _ _ hlt]) rfl rfl hdg h1
/-- System.arraycopy, int[][] to int[][] -/
theorem V_copyA (C : VC p s m args meth c G A nL cc own) {ix : Nat} (hw1 : Cond.methodLink own ix arraycopyName ∈ lw_all) (hw2 : Cond.native arraycopyName ∈ lw_all) (hw3 : Cond.static arraycopyName ∈ lw_all) (hw4 : Cond.initialized "java/lang/System" ∈ lw_all) {a0 a N0 N1 : Nat} {f g : Nat → Option Nat} (h0 : (a0, .inl (G.2.1 9, N0, .inr (.inr (.inr (.inr f))))) ∈ ps.flatten) (j t : Nat) {r : va_W} (he : ps[j]? = some r) (he2 : r[t]? = some (a, .inl (G.2.1 9, N1, .inr (.inr (.inr (.inr g)))))) (K : Nat) (hS0 : K ≤ N0) (hD1 : K ≤ N1) (hb0 : K < 2 ^ 31) (hel : ∀ i, i < K → ∀ y, f i = some y → iaIn G ps.flatten y) (hf : 1 ≤ R.frames) (hlo : (st.map fun v => v.category).sum + (nativeFrameWords "java/lang/System" "arraycopy" 5 + 11) ≤ R.locals) {ps' : List va_W} (hps : ps.set j (r.set t (a, .inl (G.2.1 9, N1, .inr (.inr (.inr (.inr (va_cpy f g 0 0 K))))))) = ps') (hdg : decode cc pc = .ok (.invokestatic ix, 3)) (kk : V p l e R s m args below meth c Q G A nL ps' k n (pc + 3) L st) : V p l e R s m args below meth c Q G A nL ps k n pc L (.int (nI K) :: .int 0 :: .ref a :: .int 0 :: .ref a0 :: st) := fun H locs ls hP hD hS hl => by
  obtain ⟨q0, ha0⟩ := List.getElem?_of_mem h0
  obtain ⟨q1, ha1, hq2⟩ := cell_in he he2
  have e3 : (nI K).toNatClampNeg = K := nI_clamp hb0
  have e4 : (0 : Int32).toNatClampNeg = 0 := rfl
  have e5 : (0 : Int32).toInt = 0 := rfl
  obtain ⟨kA, k1, k2, k3⟩ := ga_comp C
  obtain ⟨kE, hkE, -⟩ := Vm.findClass_spec k3
  intro T hT X
  have hc0 : H[a0]? = some (vp_cell (G.2.1 9) (N0, .inr (.inr (.inr (.inr f))))) := hP q0 _ ha0
  have hc1 : H[a]? = some (vp_cell (G.2.1 9) (N1, .inr (.inr (.inr (.inr g))))) := hP q1 _ ha1
  obtain ⟨vm', X', step⟩ := X.arraycopy C.1 C.2.2.2.1 (C.wd hw1) (C.wd hw2) (C.wd hw3) (C.wd hw4) (src := a0) (dst := a) (cs := vp_cell (G.2.1 9) (N0, .inr (.inr (.inr (.inr f))))) (cd := vp_cell (G.2.1 9) (N1, .inr (.inr (.inr (.inr g))))) (srcPos := 0) (destPos := 0) (n := nI K) (by rw [hT]; exact hc0) (by rw [hT]; exact hc1)
    (fun _ h => by cases h) (fun _ h => by cases h) (fun h => by cases h) (fun h => by cases h) k1 k1 k2 k2 rfl (by decide) (by decide) (nI_pos hb0)
    (by rw [e5, nI_toInt hb0]; show ¬ _ > ((arrV (G.2.1 9) N0 (fun j => va_rf (f j))).slots.size : Int); rw [arrV_size]; omega)
    (by rw [e5, nI_toInt hb0]; show ¬ _ > ((arrV (G.2.1 9) N1 (fun j => va_rf (g j))).slots.size : Int); rw [arrV_size]; omega)
    (fun vm₁ hal i hi => by
      rw [e3] at hi
      have e : (vp_cell (G.2.1 9) (N0, .inr (.inr (.inr (.inr f))))).slots.getD ((0 : Int32).toNatClampNeg + i) .null = va_rf (f i) := by
        rw [e4, Nat.zero_add]
        show (arrV (G.2.1 9) N0 (fun j => va_rf (f j))).slots.getD _ _ = _
        rw [Array.getD_eq_getD_getElem?, arrV_read _ _ (by omega)]
        rfl
      rw [e]
      cases hy : f i with
      | none => exact ⟨rfl, trivial⟩
      | some y =>
        obtain ⟨K2, g2, hv⟩ := hel i hi y hy
        obtain ⟨qv, hqv⟩ := List.getElem?_of_mem hv
        have hcv : H[y]? = some (vp_cell (G.2.1 0) (K2, .inl g2)) := hP qv _ hqv
        obtain ⟨kE', hkE', -⟩ := hal.2.2 _ _ hkE
        refine ⟨rfl, vp_cell (G.2.1 0) (K2, .inl g2), (show T.heap[y]? = some _ by rw [hT]; exact hcv), (fun q h => by cases h), ⟨kE', hkE'⟩, ⟨kE', hkE'⟩, ?_⟩
        exact asg_self _ _)
    (g := F0 m pc ls (.int (nI K) :: .int 0 :: .ref a :: .int 0 :: .ref a0 :: st)) rfl (by rw [C.2.2.1]; exact hl.1) (rest := st) rfl (by rw [C.2.1]; exact hdg) hf (by show 2 * 0 + _ + _ ≤ _; omega)
  have e1 : copied (vp_cell (G.2.1 9) (N0, .inr (.inr (.inr (.inr f))))) (vp_cell (G.2.1 9) (N1, .inr (.inr (.inr (.inr g))))) 0 0 (nI K) = vp_cell (G.2.1 9) (N1, .inr (.inr (.inr (.inr (va_cpy f g 0 0 K))))) := by
    rw [vp_cell_q, vp_cell_q, vp_cell_q]
    show (arrV (G.2.1 9) N1 (fun j => va_rf (g j))).storeRun (0 : Int32).toNatClampNeg ((arrV (G.2.1 9) N0 (fun j => va_rf (f j))).stretch (0 : Int32).toNatClampNeg (nI K).toNatClampNeg) = _
    rw [e3, e4]
    exact va_copied (sp := 0) (dp := 0) (n := K) (fun z => va_rf z) (G.2.1 9) (G.2.1 9) f g (by omega)
  rw [e1] at X' step
  have hl9 : a < H.size := (Array.getElem?_eq_some_iff.mp hc1).1
  have hheap : ((T.setVm vm').setCell a (vp_cell (G.2.1 9) (N1, .inr (.inr (.inr (.inr (va_cpy f g 0 0 K))))))).heap = H.setIfInBounds a (vp_cell (G.2.1 9) (N1, .inr (.inr (.inr (.inr (va_cpy f g 0 0 K)))))) := by rw [← hT]; rfl
  have oq : ∀ q : Nat, q ≠ a → (H.setIfInBounds a (vp_cell (G.2.1 9) (N1, .inr (.inr (.inr (.inr (va_cpy f g 0 0 K)))))))[q]? = H[q]? := fun q hq => by simp [Array.getElem?_setIfInBounds, Ne.symm hq]
  have hP1 := hP.set hD ha1 (e := .inl (G.2.1 9, N1, .inr (.inr (.inr (.inr (va_cpy f g 0 0 K)))))) (show (H.setIfInBounds a _)[a]? = some _ by simp [Array.getElem?_setIfInBounds, hl9]) oq
  have hD1 := hD.set ha1 (e := .inl (G.2.1 9, N1, .inr (.inr (.inr (.inr (va_cpy f g 0 0 K))))))
  rw [hq2, hps] at hP1 hD1
  obtain ⟨t9, a1, b1⟩ := kk _ _ ls hP1 hD1 ⟨by simp; exact hS.1, fun q g1 g2 => by
      rw [oq q (fun e => g2 (by rw [e]; exact hD.2 q1 _ ha1))]
      exact hS.2.1 q g1 g2, fun q hq => by
      rcases List.mem_append.mp hq with h | h
      · exact hS.2.2 q h
      · obtain ⟨z, -, hz⟩ := List.mem_map.mp h
        rw [← hz]
        exact hD.2 q1 _ ha1⟩ hl _ hheap X'
  exact ⟨t9, step t9 a1, b1⟩
/-- the script: an element, its length -/
theorem V_sil (C : VC p s m args meth c G A nL cc own) {i : Int32} (hdg : decode cc pc = .ok (.iaload, 1)) (hi : vp_in i (G.2.2 2)) (kk : ∀ x : Int32, V p l e R s m args below meth c Q G A nL ps k n (pc + 1) L (.int x :: st)) : V p l e R s m args below meth c Q G A nL ps k n pc L (.int i :: .ref (G.2.2 1) :: st) := fun H locs ls hP hD hS hl => by
  obtain ⟨xs, hT⟩ := C.sT.2.1.1
  exact va_ti C.1 C.2.1 hT hS hi rfl hdg (kk _ H locs ls hP hD hS hl)
theorem V_slen (C : VC p s m args meth c G A nL cc own) (hdg : decode cc pc = .ok (.arraylength, 1)) (kk : V p l e R s m args below meth c Q G A nL ps k n (pc + 1) L (.int (nI (G.2.2 2)) :: st)) : V p l e R s m args below meth c Q G A nL ps k n pc L (.ref (G.2.2 1) :: st) := fun H locs ls hP hD hS hl => by
  obtain ⟨xs, hT⟩ := C.sT.2.1.1
  exact va_tlen C.1 C.2.1 hT hS rfl hdg (kk H locs ls hP hD hS hl)
end VGA
theorem iaIn_mem {G : VG} {ps : List va_W} {j : Nat} {W : va_W} {y : Nat} (hps : ps[j]? = some W) (h : iaIn G W y) : iaIn G ps.flatten y := by
  obtain ⟨K, f, h⟩ := h
  exact ⟨K, f, List.mem_flatten.mpr ⟨W, List.mem_of_getElem? hps, h⟩⟩
theorem iaIn_l {G : VG} {W W' : va_W} {y : Nat} (h : iaIn G W y) : iaIn G (W ++ W') y := by
  obtain ⟨K, f, h⟩ := h
  exact ⟨K, f, List.mem_append_left _ h⟩
theorem iaIn_r {G : VG} {W W' : va_W} {y : Nat} (h : iaIn G W' y) : iaIn G (W ++ W') y := by
  obtain ⟨K, f, h⟩ := h
  exact ⟨K, f, List.mem_append_right _ h⟩
theorem iaIn_1 {G : VG} {q K : Nat} {f : Nat → Int32} : iaIn G (iaP G q K f) q := ⟨K, f, List.mem_cons_self⟩
theorem iaIn_fam {G : VG} {N K : Nat} {e : Nat → Nat} {f : Nat → Nat → Int32} {i : Nat} (h : i < N) : iaIn G (famW N (fun ι => iaP G (e ι) K (f ι))) (e i) :=
  ⟨K, f i, List.mem_flatten.mpr ⟨iaP G (e i) K (f i), List.mem_map.mpr ⟨i, List.mem_range.mpr h, rfl⟩, List.mem_cons_self⟩⟩
/-- a family grows by a row -/
theorem fam_push {G : VG} {N K b : Nat} {e : Nat → Nat} {f : Nat → Nat → Int32} {x : Nat → Int32} : famW N (fun ι => iaP G (e ι) K (f ι)) ++ iaP G b K x = famW (N + 1) (fun ι => iaP G ((va_up e N b) ι) K ((va_up f N x) ι)) := by
  unfold famW
  rw [List.range_succ, List.map_append, List.flatten_append]
  congr 1
  · congr 1
    apply List.map_congr_left
    intro j hj
    have hj2 := List.mem_range.mp hj
    show iaP G (e j) K (f j) = iaP G ((va_up e N b) j) K ((va_up f N x) j)
    rw [va_up_ne _ _ (by omega), va_up_ne _ _ (by omega)]
  · rw [List.map_singleton, List.flatten_singleton]
    show iaP G b K x = iaP G ((va_up e N b) N) K ((va_up f N x) N)
    unfold va_up
    rw [if_pos rfl, if_pos rfl]
