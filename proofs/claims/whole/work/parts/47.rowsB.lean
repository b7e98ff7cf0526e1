/-! ===== more rows: casts, references compared, Object[], copies, calls by an interface ===== -/
section VE2
variable {p : Program} {l : Launch} {e : Env} {R : Room} {s : State} {m : MethodId} {args : Array Value} {below : List Frame} {meth : Method} {c : Code} {Q : State → Prop} {G : VG} {A : Nat → Prop} {nL : Nat} {cc : ByteArray} {own : String} {ps : List va_W} {k n pc : Nat} {L : List (Nat × Value)} {st rest : List Value}
theorem V_cast (C : VC p s m args meth c G A nL cc own) {Cn : String} {T : u_T} {N ci ix a : Nat} {fs : List Value} (hdg : decode cc pc = .ok (.checkcast ix, 3)) (hw : Cond.classLink own ix Cn ∈ lw_all) (hc : vwCl[ci]? = some (Cn, T, N)) (he : (a, .inr (ci, fs)) ∈ ps.flatten) (kk : V p l e R s m args below meth c Q G A nL ps k n (pc + 3) L (.ref a :: st)) : V p l e R s m args below meth c Q G A nL ps k n pc L (.ref a :: st) := fun H locs ls hP hD hS hl => by
  obtain ⟨q, hq⟩ := List.getElem?_of_mem he
  exact va_castE C.1 C.2.1 C.2.2.2.1 (C.wd hw) (va_recv C.K hP hc hq) hdg (kk H locs ls hP hD hS hl)
theorem V_getS (C : VC p s m args meth c G A nL cc own) {ref Cn : String} {T : u_T} {N ci ix : Nat} {a : Nat} {fs : List Value} {v : Value} (hdg : decode cc pc = .ok (.getfield ix, 3)) (hin : ∀ w ∈ u_ws Cn T N, w ∈ lw_all) (he : (a, .inr (ci, fs)) ∈ ps.flatten) (hc : vwCl[ci]? = some (Cn, T, N)) (f : Nat) (hf : f < N) (hw : Cond.fieldLink own ix ref (T f).2.1 (T f).2.2.1 ∈ lw_all) (hsame : Cond.sameField ref (T f).1 (T f).2.1 (T f).2.2.1 ∈ lw_all) (hv : fs[f]? = some v) (kk : V p l e R s m args below meth c Q G A nL ps k n (pc + 3) L (v :: st)) : V p l e R s m args below meth c Q G A nL ps k n pc L (.ref a :: st) := fun H locs ls hP hD hS hl => by
  obtain ⟨q, hq⟩ := List.getElem?_of_mem he
  exact va_get C.1 C.2.1 C.2.2.2.2.1 hin C.2.2.2.1 C.K hP q hq hc f hf (C.wd hw) (u_same (C.wd hsame)) hv hdg (kk H locs ls hP hD hS hl)
theorem V_putS (C : VC p s m args meth c G A nL cc own) {ref Cn : String} {T : u_T} {N ci ix : Nat} {r : va_W} {a : Nat} {fs : List Value} {v : Value} {ps' : List va_W} (hdg : decode cc pc = .ok (.putfield ix, 3)) (hin : ∀ w ∈ u_ws Cn T N, w ∈ lw_all) (ty0 : Nat → FieldType) (hty : ∀ k, k < N → parseFieldDescriptor (T k).2.2.1 = some (ty0 k)) (hnm : ∀ a, a < N → ∀ b, b < N → a ≠ b → (T a).2.1 ≠ (T b).2.1) (i t : Nat) (he : ps[i]? = some r) (he2 : r[t]? = some (a, .inr (ci, fs))) (hc : vwCl[ci]? = some (Cn, T, N)) (f : Nat) (hf : f < N) (hw : Cond.fieldLink own ix ref (T f).2.1 (T f).2.2.1 ∈ lw_all) (hsame : Cond.sameField ref (T f).1 (T f).2.1 (T f).2.2.1 ∈ lw_all) (hfin : (T f).2.2.2 = false) (hn : narrow (ty0 f) v = v) (hfit : fits (ty0 f) v = true) (hl0 : f < fs.length) (hps : ps.set i (r.set t (a, .inr (ci, fs.set f v))) = ps') (kk : V p l e R s m args below meth c Q G A nL ps' k n (pc + 3) L (st)) : V p l e R s m args below meth c Q G A nL ps k n pc L (v :: .ref a :: st) := fun H locs ls hP hD hS hl => by
  obtain ⟨q, hq, hq2⟩ := cell_in he he2
  refine va_put C.1 C.2.1 C.2.2.2.2.1 hin ty0 hty hnm C.2.2.2.1 C.K hP hD hS q hq hc f hf (C.wd hw) (u_same (C.wd hsame)) hfin (hty f hf) hn hfit hl0 hdg (fun H1 locs1 hP1 hD1 hS1 => ?_)
  rw [hq2, hps] at hP1 hD1
  exact kk H1 locs1 ls hP1 hD1 hS1 hl
theorem V_acmp_eqT (C : VC p s m args meth c G A nL cc own) {x : Nat} {off : Int} {tgt : Nat} (hdg : decode cc pc = .ok (.if_acmp .eq off, 3)) (ht : (pc : Int) + off = (tgt : Int)) (kk : V p l e R s m args below meth c Q G A nL ps k n tgt L st) : V p l e R s m args below meth c Q G A nL ps k n pc L (.ref x :: .ref x :: st) := fun H locs ls hP hD hS hl =>
  lv_acmp_eq (rx := some x) (ry := some x) C.1 C.2.1 hdg ht (fun _ => kk H locs ls hP hD hS hl) (fun h => absurd rfl h)
theorem V_acmp_neF (C : VC p s m args meth c G A nL cc own) {x : Nat} {off : Int} {tgt : Nat} (hdg : decode cc pc = .ok (.if_acmp .ne off, 3)) (ht : (pc : Int) + off = (tgt : Int)) (kk : V p l e R s m args below meth c Q G A nL ps k n (pc + 3) L st) : V p l e R s m args below meth c Q G A nL ps k n pc L (.ref x :: .ref x :: st) := fun H locs ls hP hD hS hl =>
  lv_acmp_ne (rx := some x) (ry := some x) C.1 C.2.1 hdg ht (fun h => absurd rfl h) (fun _ => kk H locs ls hP hD hS hl)
theorem V_getE (C : VC p s m args meth c G A nL cc own) {ix : Nat} {ref : String} (hdg : decode cc pc = .ok (.getstatic ix, 3)) (hw : Cond.fieldLink own ix ref "DEFAULTCAPACITY_EMPTY_ELEMENTDATA" "[Ljava/lang/Object;" ∈ lw_all) (hsame : "java/util/ArrayList" = ref) (kk : V p l e R s m args below meth c Q G A nL ps k n (pc + 3) L (.ref (G.2.2 4) :: st)) : V p l e R s m args below meth c Q G A nL ps k n pc L st := fun H locs ls hP hD hS hl => by
  subst hsame
  exact va_gets C.1 C.2.1 C.sT.2.2.2.2.1.1 hS C.2.2.2.1 (C.wd hw) (fun _ h => h) hdg (kk H locs ls hP hD hS hl)
theorem V_alenE (C : VC p s m args meth c G A nL cc own) (hdg : decode cc pc = .ok (.arraylength, 1)) (kk : V p l e R s m args below meth c Q G A nL ps k n (pc + 1) L (.int 0 :: st)) : V p l e R s m args below meth c Q G A nL ps k n pc L (.ref (G.2.2 4) :: st) := fun H locs ls hP hD hS hl =>
  va_tlen C.1 C.2.1 C.sT.2.2.2.2.1.2.1 hS rfl hdg (kk H locs ls hP hD hS hl)
theorem V_ldcM (C : VC p s m args meth c G A nL cc own) {ix : Nat} (hdg : decode cc pc = .ok (.ldc ix, 2)) (hw : Cond.classLink own ix "[Ljava/lang/Object;" ∈ lw_all) (kk : V p l e R s m args below meth c Q G A nL ps k n (pc + 2) L (.ref (G.2.2 5) :: st)) : V p l e R s m args below meth c Q G A nL ps k n pc L st := fun H locs ls hP hD hS hl =>
  va_ldcM C.1 C.2.1 C.2.2.2.1 (C.wd hw) C.sT.2.2.2.2.1.2.2.1 hdg (kk H locs ls hP hD hS hl)
theorem V_getC (C : VC p s m args meth c G A nL cc own) {ix a : Nat} {x : vp_A} (hdg : decode cc pc = .ok (.invokevirtual ix, 3)) (hw : Cond.methodLink own ix ⟨"java/lang/Object", "getClass", "()Ljava/lang/Class;"⟩ ∈ lw_all) (hd : Cond.declares ⟨"java/lang/Object", "getClass", "()Ljava/lang/Class;"⟩ ∈ lw_soft) (hsel : Cond.selects "[Ljava/lang/Object;" ⟨"java/lang/Object", "getClass", "()Ljava/lang/Class;"⟩ ⟨"java/lang/Object", "getClass", "()Ljava/lang/Class;"⟩ ∈ lw_all) (hin : Cond.instanceMethod ⟨"java/lang/Object", "getClass", "()Ljava/lang/Class;"⟩ ∈ lw_all) (hnt : Cond.native ⟨"java/lang/Object", "getClass", "()Ljava/lang/Class;"⟩ ∈ lw_all) (he : (a, .inl (G.2.1 8, x)) ∈ ps.flatten) (hf : 1 ≤ R.frames) (hlo : (st.map fun v => v.category).sum + 14 ≤ R.locals) (kk : V p l e R s m args below meth c Q G A nL ps k n (pc + 3) L (.ref (G.2.2 5) :: st)) : V p l e R s m args below meth c Q G A nL ps k n pc L (.ref a :: st) := fun H locs ls hP hD hS hl => by
  obtain ⟨q, hq⟩ := List.getElem?_of_mem he
  have hk := (C.K.2 8 _ rfl).2
  refine va_getC C.1 C.2.1 (by rw [C.2.2.1]; exact hl.1.symm) C.2.2.2.1 (C.wd hw) (va_any rfl (C.sT.2.2.2.2.2.2.2.1 _ hd)) (C.wd hsel) (C.wd hin) (C.wd hnt) C.sT.2.2.2.2.1.2.2.1 ⟨vp_cell (G.2.1 8) x, hP q _ hq, ?_, ?_⟩ hf hlo hdg (kk H locs ls hP hD hS hl)
  · obtain ⟨n, f | f | f | f | f⟩ := x <;> rfl
  · have hcl0 : (vp_cell (G.2.1 8) x).cls = G.2.1 8 := by
      obtain ⟨n, f | f | f | f | f⟩ := x <;> rfl
    rw [hcl0]
    exact va_nmO hk rfl
theorem V_aastO (C : VC p s m args meth c G A nL cc own) {r : vw_C} {cA : ClassId} {E : String} (hdg : decode cc pc = .ok (.aastore, 1)) (j t t2 ci : Nat) (ht : (tysA G.2.1)[t]? = some (cA, .object E)) (hcs : Cond.castable r.1 E ∈ lw_soft) (hc : vwCl[ci]? = some r) {a N v : Nat} {vs : List Value} {f : Nat → Option Nat} {r0 : va_W} (he : ps[j]? = some r0) (he2 : r0[t2]? = some (a, .inl (cA, N, .inr (.inr (.inr (.inr f)))))) (hv : (v, .inr (ci, vs)) ∈ ps.flatten) {i : Int32} (hi : vp_in i N) {z : Nat} (hx : i.toNatClampNeg = z) {ps' : List va_W} (hps : ps.set j (r0.set t2 (a, .inl (cA, N, .inr (.inr (.inr (.inr (va_up f z (some v)))))))) = ps') (kk : V p l e R s m args below meth c Q G A nL ps' k n (pc + 1) L (st)) : V p l e R s m args below meth c Q G A nL ps k n (pc) L (.ref v :: .int i :: .ref a :: st) := fun H locs ls hP hD hS hl => by
  subst hx
  obtain ⟨q, hq, hq2⟩ := cell_in he he2
  obtain ⟨qv, hqv⟩ := List.getElem?_of_mem hv
  refine va_astqO C.1 C.2.1 C.K hP hD hS q t qv ci hq ht (C.sT.2.2.2.2.2.2.2.1 _ hcs) hqv hc hi hdg (fun H1 locs1 hP1 hD1 hS1 => ?_)
  rw [hq2, hps] at hP1 hD1
  exact kk H1 locs1 ls hP1 hD1 hS1 hl
theorem V_aastN (C : VC p s m args meth c G A nL cc own) {cA : ClassId} {E : String} (hdg : decode cc pc = .ok (.aastore, 1)) (j t t2 : Nat) (ht : (tysA G.2.1)[t]? = some (cA, .object E)) {a N : Nat} {f : Nat → Option Nat} {r0 : va_W} (he : ps[j]? = some r0) (he2 : r0[t2]? = some (a, .inl (cA, N, .inr (.inr (.inr (.inr f)))))) {i : Int32} (hi : vp_in i N) {z : Nat} (hx : i.toNatClampNeg = z) {ps' : List va_W} (hps : ps.set j (r0.set t2 (a, .inl (cA, N, .inr (.inr (.inr (.inr (va_up f z none))))))) = ps') (kk : V p l e R s m args below meth c Q G A nL ps' k n (pc + 1) L (st)) : V p l e R s m args below meth c Q G A nL ps k n (pc) L (.null :: .int i :: .ref a :: st) := fun H locs ls hP hD hS hl => by
  subst hx
  obtain ⟨q, hq, hq2⟩ := cell_in he he2
  refine va_astqN C.1 C.2.1 C.K hP hD hS q t hq ht hi hdg (fun H1 locs1 hP1 hD1 hS1 => ?_)
  rw [hq2, hps] at hP1 hD1
  exact kk H1 locs1 ls hP1 hD1 hS1 hl
/-- an element of an array of int arrays -/
theorem V_aaldI (C : VC p s m args meth c G A nL cc own) {a N : Nat} {f : Nat → Option Nat} {i : Int32} {x : Nat} {b : Nat} (hdg : decode cc pc = .ok (.aaload, 1)) (he : (a, .inl (G.2.1 9, N, .inr (.inr (.inr (.inr f))))) ∈ ps.flatten) (hi : vp_in i N) (hx : i.toNatClampNeg = x) (hb : f x = some b) (kk : V p l e R s m args below meth c Q G A nL ps k n (pc + 1) L (.ref b :: st)) : V p l e R s m args below meth c Q G A nL ps k n pc L (.int i :: .ref a :: st) := fun H locs ls hP hD hS hl => by
  subst hx
  obtain ⟨q, hq⟩ := List.getElem?_of_mem he
  have hlt : i.toNatClampNeg < N := Nat.not_le.mp fun q => hi (Or.inr q)
  have h1 := kk H locs ls hP hD hS hl
  rw [show (Value.ref b) = va_rf (f i.toNatClampNeg) by rw [hb]; rfl] at h1
  exact W.aald (v := va_rf (f i.toNatClampNeg)) (ty := .array .int) C.1 C.2.1 (hP q _ hq) ((C.K.2 9 _ rfl).1 N (fun j => va_rf (f j))) rfl (fun q => by cases q) (by show ¬ (i < 0 ∨ (arrV _ _ _).slots.size ≤ _); rw [arrV_size]; exact hi) (by show (arrV _ _ _).slots[_]? = _; rw [arrV_read _ _ hlt]) rfl rfl hdg h1
/-- System.arraycopy of ints -/
theorem V_copyi (C : VC p s m args meth c G A nL cc own) {ix : Nat} (hw1 : Cond.methodLink own ix arraycopyName ∈ lw_all) (hw2 : Cond.native arraycopyName ∈ lw_all) (hw3 : Cond.static arraycopyName ∈ lw_all) (hw4 : Cond.initialized "java/lang/System" ∈ lw_all) {a0 a N0 N1 : Nat} {f g : Nat → Int32} (h0 : (a0, .inl (G.2.1 0, N0, .inl f)) ∈ ps.flatten) (j t : Nat) {r : va_W} (he : ps[j]? = some r) (he2 : r[t]? = some (a, .inl (G.2.1 0, N1, .inl g))) (S D K : Nat) {sp dp sn : Int32} (hs : sp = nI S) (hd : dp = nI D) (hn : sn = nI K) (hS0 : S + K ≤ N0) (hD1 : D + K ≤ N1) (hb0 : N0 < 2 ^ 31) (hb1 : N1 < 2 ^ 31) (hf : 1 ≤ R.frames) (hlo : (st.map fun v => v.category).sum + (nativeFrameWords "java/lang/System" "arraycopy" 5 + 11) ≤ R.locals) {ps' : List va_W} (hps : ps.set j (r.set t (a, .inl (G.2.1 0, N1, .inl (va_cpy f g S D K)))) = ps') (hdg : decode cc pc = .ok (.invokestatic ix, 3)) (kk : V p l e R s m args below meth c Q G A nL ps' k n (pc + 3) L st) : V p l e R s m args below meth c Q G A nL ps k n pc L (.int sn :: .int dp :: .ref a :: .int sp :: .ref a0 :: st) := fun H locs ls hP hD hS hl => by
  obtain ⟨q0, hq0⟩ := List.getElem?_of_mem h0
  obtain ⟨q, hq, hq2⟩ := cell_in he he2
  have e1 : (nI S).toNatClampNeg = S := nI_clamp (by omega)
  have e2 : (nI D).toNatClampNeg = D := nI_clamp (by omega)
  have e3 : (nI K).toNatClampNeg = K := nI_clamp (by omega)
  subst hs hd hn
  refine va_copyi C.1 C.2.1 (by rw [C.2.2.1]; exact hl.1.symm) C.2.2.2.1 (C.wd hw1) (C.wd hw2) (C.wd hw3) (C.wd hw4) C.K hP hD hS q0 q 0 0 hq0 hq rfl rfl rfl (nI_pos (by omega)) (nI_pos (by omega)) (nI_pos (by omega)) (by rw [e1, e3]; exact hS0) (by rw [e2, e3]; exact hD1) (fun _ _ => rfl) hf hlo hdg (fun H1 locs1 hP1 hD1 hS1 => ?_)
  rw [e1, e2, e3, hq2, hps] at hP1 hD1
  exact kk H1 locs1 ls hP1 hD1 hS1 hl
/-- System.arraycopy of references to the model's charges, Object[] to Object[] -/
theorem V_copyq (C : VC p s m args meth c G A nL cc own) {ix : Nat} (hw1 : Cond.methodLink own ix arraycopyName ∈ lw_all) (hw2 : Cond.native arraycopyName ∈ lw_all) (hw3 : Cond.static arraycopyName ∈ lw_all) (hw4 : Cond.initialized "java/lang/System" ∈ lw_all) (hcs : Cond.castable "ClinkerWorksModel$Charge" "java/lang/Object" ∈ lw_soft) {a0 a N0 N1 : Nat} {f g : Nat → Option Nat} (h0 : (a0, .inl (G.2.1 8, N0, .inr (.inr (.inr (.inr f))))) ∈ ps.flatten) (j t : Nat) {r : va_W} (he : ps[j]? = some r) (he2 : r[t]? = some (a, .inl (G.2.1 8, N1, .inr (.inr (.inr (.inr g)))))) (S D K : Nat) {sp dp sn : Int32} (hs : sp = nI S) (hd : dp = nI D) (hn : sn = nI K) (hS0 : S + K ≤ N0) (hD1 : D + K ≤ N1) (hb0 : N0 < 2 ^ 31) (hb1 : N1 < 2 ^ 31) (hel : ∀ i, i < K → ∀ y, f (S + i) = some y → ∃ fs, (y, .inr (10, fs)) ∈ ps.flatten) (hf : 1 ≤ R.frames) (hlo : (st.map fun v => v.category).sum + (nativeFrameWords "java/lang/System" "arraycopy" 5 + 11) ≤ R.locals) {ps' : List va_W} (hps : ps.set j (r.set t (a, .inl (G.2.1 8, N1, .inr (.inr (.inr (.inr (va_cpy f g S D K))))))) = ps') (hdg : decode cc pc = .ok (.invokestatic ix, 3)) (kk : V p l e R s m args below meth c Q G A nL ps' k n (pc + 3) L st) : V p l e R s m args below meth c Q G A nL ps k n pc L (.int sn :: .int dp :: .ref a :: .int sp :: .ref a0 :: st) := fun H locs ls hP hD hS hl => by
  obtain ⟨q0, hq0⟩ := List.getElem?_of_mem h0
  obtain ⟨q, hq, hq2⟩ := cell_in he he2
  have e1 : (nI S).toNatClampNeg = S := nI_clamp (by omega)
  have e2 : (nI D).toNatClampNeg = D := nI_clamp (by omega)
  have e3 : (nI K).toNatClampNeg = K := nI_clamp (by omega)
  subst hs hd hn
  refine va_copyq (C := "ClinkerWorksModel$Charge") (E0 := "java/lang/Object") (E1 := "java/lang/Object") C.1 C.2.1 (by rw [C.2.2.1]; exact hl.1.symm) C.2.2.2.1 (C.wd hw1) (C.wd hw2) (C.wd hw3) (C.wd hw4) C.K hP hD hS q0 q 8 8 hq0 hq rfl rfl (nI_pos (by omega)) (nI_pos (by omega)) (nI_pos (by omega)) (by rw [e1, e3]; exact hS0) (by rw [e2, e3]; exact hD1) ?_ ?_ hf hlo hdg (fun H1 locs1 hP1 hD1 hS1 => ?_)
  · intro i hi y hy
    rw [e3] at hi
    rw [e1] at hy
    obtain ⟨fs, hm⟩ := hel i hi y hy
    obtain ⟨z, hz⟩ := List.getElem?_of_mem hm
    exact va_recv C.K hP (ci := 10) rfl hz
  · intro comp c0 g1 g2
    obtain ⟨c1, t1, f1, f2, f3⟩ := Cond.castable_spec (va_Nw.use (A := args) rfl (C.sT.2.2.2.2.2.2.2.1 _ hcs))
    cases g2.symm.trans f1
    cases g1.symm.trans f2
    exact f3
  · rw [e1, e2, e3, hq2, hps] at hP1 hD1
    exact kk H1 locs1 ls hP1 hD1 hS1 hl
/-- a call by an interface -/
def VRun5 (p : Program) (l : Launch) (e : Env) (R : Room) (s : State) (m : MethodId) (args : Array Value) (below : List Frame) (meth : Method) (c : Code) (G : VG) (A : Nat → Prop) (nL : Nat) (ps : List va_W) (k n pc : Nat) (L : List (Nat × Value)) (st rest : List Value) (mc ms : Nat) (pre : List va_W) (Qa : Nat → State → Outcome → State → Prop) : Prop :=
  ∀ (H : Heap) (locs : List Loc) (ls : Array Slot), va_P G.1 vwCl ps.flatten H → va_D A ps.flatten → va_S A s.heap H locs → lv_has ls nL L → va_Run5 p l e R s m args below meth c H locs k n mc ms (F0 m pc ls st) rest (Qa H.size) (va_A pre.flatten H.size)
theorem V_runF (C : VC p s m args meth c G A nL cc own) {x y : MethodName} {bytes : ByteArray} {maxL fr lo mc ms ix count : Nat} {pre : List va_W} {Qc : Nat → Array Value → State → Outcome → State → Prop} {ret : Option FieldType} {b : Nat} (As : List Value) (hM : ∀ sz : Nat, Met l y (lw_ws y bytes maxL ret) { frames := fr, cells := mc, slots := ms, locals := lo } (va_Pc (.ref b :: As) (wPre G pre sz)) (Qc sz) mc ms (va_A pre.flatten sz)) (is : List Nat) (hi : is.map (fun i => ps[i]?) = pre.map some) (hn : va_nd is = true) (hlink : Cond.methodLink own ix x ∈ lw_all) (hface : ("java/util/ArrayList", x, y) ∈ lw_faces) (hinst : Cond.instanceMethod y ∈ lw_all) (hsel : Cond.selects "java/util/ArrayList" x y ∈ lw_all) (hini : Cond.initialized y.cls ∈ lw_all) (hcode : Cond.code y bytes maxL ret ∈ lw_all)
    (hd : x.cls ≠ "java/lang/invoke/MethodHandle" ∧ x.cls ≠ "java/lang/invoke/VarHandle" ∧ (parseMethodDescriptor x.desc).map (fun d => d.parameters.length) = some As.length) (hR : fr + 1 ≤ R.frames ∧ 8 + (maxL + 11) + lo ≤ R.locals) {T : u_T} {N : Nat} (hc : vwCl[0]? = some ("java/util/ArrayList", T, N)) {fs : List Value} (hj : (b, .inr (0, fs)) ∈ ps.flatten) (hst : st = As.reverse ++ .ref b :: rest) (hcat : (rest.map fun v => v.category).sum ≤ 8) (hf : k + mc ≤ R.cells ∧ n + ms ≤ R.slots) (hdg : decode cc pc = .ok (.invokeinterface ix count, 5)) : VRun5 p l e R s m args below meth c G A nL ps k n pc L st rest mc ms pre (fun sz => Qc sz (Value.ref b :: As).toArray) := by
  intro H locs ls hP hD hS hl
  obtain ⟨q, hq⟩ := List.getElem?_of_mem hj
  have hG : GoodIn lw_all (va_wsF own ix "java/util/ArrayList" x y (lw_ws y bytes maxL ret)) := goodIn_app (a := [.methodLink own ix x, .selects "java/util/ArrayList" x y, .instanceMethod y, .initialized y.cls]) (fun w hw => by simp only [List.mem_cons, List.not_mem_nil, or_false] at hw; rcases hw with rfl | rfl | rfl | rfl <;> exact ⟨by assumption, good_of_word (lw_all_good (by assumption))⟩) (lw_goodIn hcode)
  exact va_runF (C.K.1 0 _ hc).2 C.fix (hM H.size) (va_cwF As.length C.2.2.2.2.1 hG rfl rfl rfl (C.sT.2.2.2.2.2.2.2.2.1 _ hface) hd hR) ⟨wPre_blind, va_recv C.K hP hc hq, fun U hU hW => ⟨rfl, w_pre C hP hD hS hi hn hU hW⟩⟩ rfl rfl hl.1 hst (lv_room hcat) hdg hf
theorem V_callFi (C : VC p s m args meth c G A nL cc own) {pre : List va_W} {mc ms : Nat} {a : Array Value} {post : Int32 → List va_W → Prop} (hr : VRun5 p l e R s m args below meth c G A nL ps k n pc L st rest mc ms pre (fun sz => QcI G (va_A pre.flatten sz) post a)) {is : List Nat} (hi : is.map (fun i => ps[i]?) = pre.map some) (js : List Nat) {rs : List va_W} (hj : js.map (fun i => ps[i]?) = rs.map some) (hnj : va_nd js = true) (hx : ∀ j ∈ js, j ∉ is) (kk : ∀ (r : Int32) (u : List va_W), post r u → V p l e R s m args below meth c Q G A nL (u ++ rs) (k + mc) (n + ms) (pc + 5) L (.int r :: rest)) : V p l e R s m args below meth c Q G A nL ps k n (pc) L (st) := fun H locs ls hP hD hS hl => by
  have hF := w_free hD hS C.hA hi
  exact va_callFi (hr H locs ls hP hD hS hl) hS (fun q _ h => hF q h) hF (fun r u t H1 locs1 ht hvm hp hB hz hk1 hS1 => by
    obtain ⟨hP1, hK1, hD1⟩ := hB
    rw [ht] at hP1
    obtain ⟨hP2, hD2⟩ := w_join hP hD hi hj hnj hx hk1 hF hP1 hD1
    exact kk r u hp H1 locs1 ls hP2 hD2 hS1 hl)
theorem V_callFr (C : VC p s m args meth c G A nL cc own) {pre : List va_W} {mc ms : Nat} {a : Array Value} {post : Nat → List va_W → Prop} (hr : VRun5 p l e R s m args below meth c G A nL ps k n pc L st rest mc ms pre (fun sz => QcR G (va_A pre.flatten sz) post a)) {is : List Nat} (hi : is.map (fun i => ps[i]?) = pre.map some) (js : List Nat) {rs : List va_W} (hj : js.map (fun i => ps[i]?) = rs.map some) (hnj : va_nd js = true) (hx : ∀ j ∈ js, j ∉ is) (kk : ∀ (r : Nat) (u : List va_W), post r u → V p l e R s m args below meth c Q G A nL (u ++ rs) (k + mc) (n + ms) (pc + 5) L (.ref r :: rest)) : V p l e R s m args below meth c Q G A nL ps k n (pc) L (st) := fun H locs ls hP hD hS hl => by
  have hF := w_free hD hS C.hA hi
  exact va_callFr (hr H locs ls hP hD hS hl) hS (fun q _ h => hF q h) hF (fun u ra t H1 locs1 ht hvm hp hB hz hk1 hS1 => by
    obtain ⟨rfl, hP1, hK1, hD1⟩ := hB
    rw [ht] at hP1
    obtain ⟨hP2, hD2⟩ := w_join hP hD hi hj hnj hx hk1 hF hP1 hD1
    exact kk u.1 u.2 hp H1 locs1 ls hP2 hD2 hS1 hl)
end VE2
theorem soft_cs : Cond.castable "ClinkerWorksModel$Charge" "java/lang/Object" ∈ lw_soft := by
  unfold lw_soft
  exact List.mem_filter.mpr ⟨by decide +kernel, rfl⟩
theorem soft_gc : Cond.declares ⟨"java/lang/Object", "getClass", "()Ljava/lang/Class;"⟩ ∈ lw_soft := by
  unfold lw_soft
  exact List.mem_filter.mpr ⟨by decide +kernel, rfl⟩
